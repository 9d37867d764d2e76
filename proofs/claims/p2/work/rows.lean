section
-- ===== PART A: goes FIRST, ahead of the names: the tables' words, and 'selects' of the private methods out of them =====
/-- a private method of a class that the tables say can be made, by its rows of tables_1 -/
def lw_okq (q : MethodName × Nat) : Prop := (q.1.cls ≠ "java/lang/invoke/MethodHandle" ∧ q.1.cls ≠ "java/lang/invoke/VarHandle") ∧ Cond.instantiable q.1.cls q.2 ∈ tables_1 ∧ Cond.privateMethod q.1 ∈ tables_1 ∧ Cond.instanceMethod q.1 ∈ tables_1
theorem lw_p0 : lw_okq (⟨"SpannedCells$Grid", "extendGroupTo", "(I)V"⟩, 6) := ⟨⟨by decide +kernel, by decide +kernel⟩, List.mem_of_getElem? (i := 26) (by decide +kernel), List.mem_of_getElem? (i := 158) (by decide +kernel), List.mem_of_getElem? (i := 159) (by decide +kernel)⟩
theorem lw_p1 : lw_okq (⟨"SpannedCells$Grid", "firstFreeColumn", "(I)I"⟩, 6) := ⟨⟨by decide +kernel, by decide +kernel⟩, List.mem_of_getElem? (i := 26) (by decide +kernel), List.mem_of_getElem? (i := 199) (by decide +kernel), List.mem_of_getElem? (i := 200) (by decide +kernel)⟩
theorem lw_p2 : lw_okq (⟨"java/util/ArrayList", "add", "(Ljava/lang/Object;[Ljava/lang/Object;I)V"⟩, 3) := ⟨⟨by decide +kernel, by decide +kernel⟩, List.mem_of_getElem? (i := 32) (by decide +kernel), List.mem_of_getElem? (i := 275) (by decide +kernel), List.mem_of_getElem? (i := 276) (by decide +kernel)⟩
theorem lw_p3 : lw_okq (⟨"java/util/ArrayList", "grow", "()[Ljava/lang/Object;"⟩, 3) := ⟨⟨by decide +kernel, by decide +kernel⟩, List.mem_of_getElem? (i := 32) (by decide +kernel), List.mem_of_getElem? (i := 279) (by decide +kernel), List.mem_of_getElem? (i := 280) (by decide +kernel)⟩
theorem lw_p4 : lw_okq (⟨"java/util/ArrayList", "grow", "(I)[Ljava/lang/Object;"⟩, 3) := ⟨⟨by decide +kernel, by decide +kernel⟩, List.mem_of_getElem? (i := 32) (by decide +kernel), List.mem_of_getElem? (i := 283) (by decide +kernel), List.mem_of_getElem? (i := 284) (by decide +kernel)⟩
theorem lw_p5 : lw_okq (⟨"SpannedCells$Grid", "countOwnedSlots", "()I"⟩, 6) := ⟨⟨by decide +kernel, by decide +kernel⟩, List.mem_of_getElem? (i := 26) (by decide +kernel), List.mem_of_getElem? (i := 389) (by decide +kernel), List.mem_of_getElem? (i := 390) (by decide +kernel)⟩
theorem lw_p6 : lw_okq (⟨"SpannedCells$Grid", "beginsInColumn", "(I)Z"⟩, 6) := ⟨⟨by decide +kernel, by decide +kernel⟩, List.mem_of_getElem? (i := 26) (by decide +kernel), List.mem_of_getElem? (i := 401) (by decide +kernel), List.mem_of_getElem? (i := 402) (by decide +kernel)⟩
theorem lw_p7 : lw_okq (⟨"SpannedCells$Grid", "beginsInRow", "(I)Z"⟩, 6) := ⟨⟨by decide +kernel, by decide +kernel⟩, List.mem_of_getElem? (i := 26) (by decide +kernel), List.mem_of_getElem? (i := 409) (by decide +kernel), List.mem_of_getElem? (i := 410) (by decide +kernel)⟩
theorem lw_p8 : lw_okq (⟨"SpannedCells", "measuredWidths", "()LSpannedCells$Widths;"⟩, 6) := ⟨⟨by decide +kernel, by decide +kernel⟩, List.mem_of_getElem? (i := 18) (by decide +kernel), List.mem_of_getElem? (i := 422) (by decide +kernel), List.mem_of_getElem? (i := 423) (by decide +kernel)⟩
theorem lw_p9 : lw_okq (⟨"SpannedCells$Widths", "fit", "(LSpannedCells$Cell;I)V"⟩, 4) := ⟨⟨by decide +kernel, by decide +kernel⟩, List.mem_of_getElem? (i := 77) (by decide +kernel), List.mem_of_getElem? (i := 439) (by decide +kernel), List.mem_of_getElem? (i := 440) (by decide +kernel)⟩
theorem lw_p10 : lw_okq (⟨"SpannedCells", "chosenWidths", "()LSpannedCells$Lines;"⟩, 6) := ⟨⟨by decide +kernel, by decide +kernel⟩, List.mem_of_getElem? (i := 18) (by decide +kernel), List.mem_of_getElem? (i := 469) (by decide +kernel), List.mem_of_getElem? (i := 470) (by decide +kernel)⟩
theorem lw_p11 : lw_okq (⟨"SpannedCells$Widths", "weighByScope", "(I)V"⟩, 4) := ⟨⟨by decide +kernel, by decide +kernel⟩, List.mem_of_getElem? (i := 77) (by decide +kernel), List.mem_of_getElem? (i := 491) (by decide +kernel), List.mem_of_getElem? (i := 492) (by decide +kernel)⟩
theorem lw_p12 : lw_okq (⟨"SpannedCells", "measuredHeights", "()LSpannedCells$Lines;"⟩, 6) := ⟨⟨by decide +kernel, by decide +kernel⟩, List.mem_of_getElem? (i := 18) (by decide +kernel), List.mem_of_getElem? (i := 504) (by decide +kernel), List.mem_of_getElem? (i := 505) (by decide +kernel)⟩
theorem lw_p13 : lw_okq (⟨"SpannedCellsModel", "endOf", "(I)I"⟩, 26) := ⟨⟨by decide +kernel, by decide +kernel⟩, List.mem_of_getElem? (i := 551) (by decide +kernel), List.mem_of_getElem? (i := 641) (by decide +kernel), List.mem_of_getElem? (i := 642) (by decide +kernel)⟩
theorem lw_p14 : lw_okq (⟨"SpannedCellsModel", "isTaken", "(I)Z"⟩, 26) := ⟨⟨by decide +kernel, by decide +kernel⟩, List.mem_of_getElem? (i := 551) (by decide +kernel), List.mem_of_getElem? (i := 653) (by decide +kernel), List.mem_of_getElem? (i := 654) (by decide +kernel)⟩
theorem lw_p15 : lw_okq (⟨"SpannedCellsModel", "isCell", "(I)Z"⟩, 26) := ⟨⟨by decide +kernel, by decide +kernel⟩, List.mem_of_getElem? (i := 551) (by decide +kernel), List.mem_of_getElem? (i := 661) (by decide +kernel), List.mem_of_getElem? (i := 662) (by decide +kernel)⟩
def lw_privs_1 : List (MethodName × Nat) := [(⟨"SpannedCells$Grid", "extendGroupTo", "(I)V"⟩, 6), (⟨"SpannedCells$Grid", "firstFreeColumn", "(I)I"⟩, 6), (⟨"java/util/ArrayList", "add", "(Ljava/lang/Object;[Ljava/lang/Object;I)V"⟩, 3), (⟨"java/util/ArrayList", "grow", "()[Ljava/lang/Object;"⟩, 3), (⟨"java/util/ArrayList", "grow", "(I)[Ljava/lang/Object;"⟩, 3), (⟨"SpannedCells$Grid", "countOwnedSlots", "()I"⟩, 6), (⟨"SpannedCells$Grid", "beginsInColumn", "(I)Z"⟩, 6), (⟨"SpannedCells$Grid", "beginsInRow", "(I)Z"⟩, 6), (⟨"SpannedCells", "measuredWidths", "()LSpannedCells$Widths;"⟩, 6), (⟨"SpannedCells$Widths", "fit", "(LSpannedCells$Cell;I)V"⟩, 4), (⟨"SpannedCells", "chosenWidths", "()LSpannedCells$Lines;"⟩, 6), (⟨"SpannedCells$Widths", "weighByScope", "(I)V"⟩, 4), (⟨"SpannedCells", "measuredHeights", "()LSpannedCells$Lines;"⟩, 6), (⟨"SpannedCellsModel", "endOf", "(I)I"⟩, 26), (⟨"SpannedCellsModel", "isTaken", "(I)Z"⟩, 26), (⟨"SpannedCellsModel", "isCell", "(I)Z"⟩, 26)]
theorem lw_r1 : ∀ q ∈ lw_privs_1, lw_okq q := List.forall_mem_cons.mpr ⟨lw_p0, List.forall_mem_cons.mpr ⟨lw_p1, List.forall_mem_cons.mpr ⟨lw_p2, List.forall_mem_cons.mpr ⟨lw_p3, List.forall_mem_cons.mpr ⟨lw_p4, List.forall_mem_cons.mpr ⟨lw_p5, List.forall_mem_cons.mpr ⟨lw_p6, List.forall_mem_cons.mpr ⟨lw_p7, List.forall_mem_cons.mpr ⟨lw_p8, List.forall_mem_cons.mpr ⟨lw_p9, List.forall_mem_cons.mpr ⟨lw_p10, List.forall_mem_cons.mpr ⟨lw_p11, List.forall_mem_cons.mpr ⟨lw_p12, List.forall_mem_cons.mpr ⟨lw_p13, List.forall_mem_cons.mpr ⟨lw_p14, List.forall_mem_cons.mpr ⟨lw_p15, fun _ h => absurd h List.not_mem_nil⟩⟩⟩⟩⟩⟩⟩⟩⟩⟩⟩⟩⟩⟩⟩⟩
theorem lw_p16 : lw_okq (⟨"SpannedCellsModel", "takes", "(III)Z"⟩, 26) := ⟨⟨by decide +kernel, by decide +kernel⟩, List.mem_of_getElem? (i := 551) (by decide +kernel), List.mem_of_getElem? (i := 685) (by decide +kernel), List.mem_of_getElem? (i := 686) (by decide +kernel)⟩
theorem lw_p17 : lw_okq (⟨"SpannedCellsModel", "down", "(I)I"⟩, 26) := ⟨⟨by decide +kernel, by decide +kernel⟩, List.mem_of_getElem? (i := 551) (by decide +kernel), List.mem_of_getElem? (i := 689) (by decide +kernel), List.mem_of_getElem? (i := 690) (by decide +kernel)⟩
theorem lw_p18 : lw_okq (⟨"SpannedCellsModel", "howMany", "(II)I"⟩, 26) := ⟨⟨by decide +kernel, by decide +kernel⟩, List.mem_of_getElem? (i := 551) (by decide +kernel), List.mem_of_getElem? (i := 697) (by decide +kernel), List.mem_of_getElem? (i := 698) (by decide +kernel)⟩
theorem lw_p19 : lw_okq (⟨"SpannedCellsModel", "findWidths", "()V"⟩, 26) := ⟨⟨by decide +kernel, by decide +kernel⟩, List.mem_of_getElem? (i := 551) (by decide +kernel), List.mem_of_getElem? (i := 716) (by decide +kernel), List.mem_of_getElem? (i := 717) (by decide +kernel)⟩
theorem lw_p20 : lw_okq (⟨"SpannedCellsModel", "measure", "()V"⟩, 26) := ⟨⟨by decide +kernel, by decide +kernel⟩, List.mem_of_getElem? (i := 551) (by decide +kernel), List.mem_of_getElem? (i := 720) (by decide +kernel), List.mem_of_getElem? (i := 721) (by decide +kernel)⟩
theorem lw_p21 : lw_okq (⟨"SpannedCellsModel", "measureCell", "(I)V"⟩, 26) := ⟨⟨by decide +kernel, by decide +kernel⟩, List.mem_of_getElem? (i := 551) (by decide +kernel), List.mem_of_getElem? (i := 724) (by decide +kernel), List.mem_of_getElem? (i := 725) (by decide +kernel)⟩
theorem lw_p22 : lw_okq (⟨"SpannedCellsModel", "weigh", "([I)V"⟩, 26) := ⟨⟨by decide +kernel, by decide +kernel⟩, List.mem_of_getElem? (i := 551) (by decide +kernel), List.mem_of_getElem? (i := 731) (by decide +kernel), List.mem_of_getElem? (i := 732) (by decide +kernel)⟩
theorem lw_p23 : lw_okq (⟨"SpannedCellsModel", "share", "(I[III)V"⟩, 26) := ⟨⟨by decide +kernel, by decide +kernel⟩, List.mem_of_getElem? (i := 551) (by decide +kernel), List.mem_of_getElem? (i := 738) (by decide +kernel), List.mem_of_getElem? (i := 739) (by decide +kernel)⟩
theorem lw_p24 : lw_okq (⟨"SpannedCellsModel", "fixWidths", "()V"⟩, 26) := ⟨⟨by decide +kernel, by decide +kernel⟩, List.mem_of_getElem? (i := 551) (by decide +kernel), List.mem_of_getElem? (i := 742) (by decide +kernel), List.mem_of_getElem? (i := 743) (by decide +kernel)⟩
theorem lw_p25 : lw_okq (⟨"SpannedCellsModel", "room", "()I"⟩, 26) := ⟨⟨by decide +kernel, by decide +kernel⟩, List.mem_of_getElem? (i := 551) (by decide +kernel), List.mem_of_getElem? (i := 746) (by decide +kernel), List.mem_of_getElem? (i := 747) (by decide +kernel)⟩
theorem lw_p26 : lw_okq (⟨"SpannedCellsModel", "findHeights", "()V"⟩, 26) := ⟨⟨by decide +kernel, by decide +kernel⟩, List.mem_of_getElem? (i := 551) (by decide +kernel), List.mem_of_getElem? (i := 754) (by decide +kernel), List.mem_of_getElem? (i := 755) (by decide +kernel)⟩
theorem lw_p27 : lw_okq (⟨"SpannedCellsModel", "stronger", "(II)I"⟩, 26) := ⟨⟨by decide +kernel, by decide +kernel⟩, List.mem_of_getElem? (i := 551) (by decide +kernel), List.mem_of_getElem? (i := 771) (by decide +kernel), List.mem_of_getElem? (i := 772) (by decide +kernel)⟩
def lw_privs_2 : List (MethodName × Nat) := [(⟨"SpannedCellsModel", "takes", "(III)Z"⟩, 26), (⟨"SpannedCellsModel", "down", "(I)I"⟩, 26), (⟨"SpannedCellsModel", "howMany", "(II)I"⟩, 26), (⟨"SpannedCellsModel", "findWidths", "()V"⟩, 26), (⟨"SpannedCellsModel", "measure", "()V"⟩, 26), (⟨"SpannedCellsModel", "measureCell", "(I)V"⟩, 26), (⟨"SpannedCellsModel", "weigh", "([I)V"⟩, 26), (⟨"SpannedCellsModel", "share", "(I[III)V"⟩, 26), (⟨"SpannedCellsModel", "fixWidths", "()V"⟩, 26), (⟨"SpannedCellsModel", "room", "()I"⟩, 26), (⟨"SpannedCellsModel", "findHeights", "()V"⟩, 26), (⟨"SpannedCellsModel", "stronger", "(II)I"⟩, 26)]
theorem lw_r2 : ∀ q ∈ lw_privs_2, lw_okq q := List.forall_mem_cons.mpr ⟨lw_p16, List.forall_mem_cons.mpr ⟨lw_p17, List.forall_mem_cons.mpr ⟨lw_p18, List.forall_mem_cons.mpr ⟨lw_p19, List.forall_mem_cons.mpr ⟨lw_p20, List.forall_mem_cons.mpr ⟨lw_p21, List.forall_mem_cons.mpr ⟨lw_p22, List.forall_mem_cons.mpr ⟨lw_p23, List.forall_mem_cons.mpr ⟨lw_p24, List.forall_mem_cons.mpr ⟨lw_p25, List.forall_mem_cons.mpr ⟨lw_p26, List.forall_mem_cons.mpr ⟨lw_p27, fun _ h => absurd h List.not_mem_nil⟩⟩⟩⟩⟩⟩⟩⟩⟩⟩⟩⟩
def lw_privs : List (MethodName × Nat) := lw_privs_1 ++ (lw_privs_2)
def lw_tbl : List Cond := k2_sels lw_privs ++ tables_1
theorem lw_privs_ok : ∀ q ∈ lw_privs, lw_okq q := by
  show ∀ q ∈ lw_privs_1 ++ (lw_privs_2), lw_okq q
  exact List.forall_mem_append.mpr ⟨lw_r1, lw_r2⟩
end
section
/-! ===== names: by my own program out of the words of the tables and the listing ===== -/
def TSC : u_T := fun k => match k with
  | 0 => ("SpannedCells", "grid", "LSpannedCells$Grid;", true)
  | 1 => ("SpannedCells", "widths", "LSpannedCells$Widths;", true)
  | 2 => ("SpannedCells", "heights", "LSpannedCells$Heights;", true)
  | 3 => ("SpannedCells", "space", "I", false)
  | 4 => ("SpannedCells", "gap", "I", false)
  | _ => ("SpannedCells", "fixed", "Z", false)
def tySC : Nat → FieldType := fun k => match k with
  | 0 => .object "SpannedCells$Grid"
  | 1 => .object "SpannedCells$Widths"
  | 2 => .object "SpannedCells$Heights"
  | 3 => .int
  | 4 => .int
  | _ => .boolean
theorem nokSC : ∀ a, a < 6 → ∀ b, b < 6 → a ≠ b → (TSC a).2.1 ≠ (TSC b).2.1 := by decide +kernel
theorem tokSC : ∀ k, k < 6 → parseFieldDescriptor (TSC k).2.2.1 = some (tySC k) := by decide +kernel
def TGR : u_T := fun k => match k with
  | 0 => ("SpannedCells$Grid", "cells", "Ljava/util/ArrayList;", true)
  | 1 => ("SpannedCells$Grid", "groups", "I", false)
  | 2 => ("SpannedCells$Grid", "groupStart", "I", false)
  | 3 => ("SpannedCells$Grid", "begunInGroup", "I", false)
  | 4 => ("SpannedCells$Grid", "rowsEnd", "I", false)
  | _ => ("SpannedCells$Grid", "columnsEnd", "I", false)
def tyGR : Nat → FieldType := fun k => match k with
  | 0 => .object "java/util/ArrayList"
  | 1 => .int
  | 2 => .int
  | 3 => .int
  | 4 => .int
  | _ => .int
theorem nokGR : ∀ a, a < 6 → ∀ b, b < 6 → a ≠ b → (TGR a).2.1 ≠ (TGR b).2.1 := by decide +kernel
theorem tokGR : ∀ k, k < 6 → parseFieldDescriptor (TGR k).2.2.1 = some (tyGR k) := by decide +kernel
def TAL : u_T := fun k => match k with
  | 0 => ("java/util/ArrayList", "elementData", "[Ljava/lang/Object;", false)
  | 1 => ("java/util/ArrayList", "size", "I", false)
  | _ => ("java/util/AbstractList", "modCount", "I", false)
def tyAL : Nat → FieldType := fun k => match k with
  | 0 => .array (.object "java/lang/Object")
  | 1 => .int
  | _ => .int
theorem nokAL : ∀ a, a < 3 → ∀ b, b < 3 → a ≠ b → (TAL a).2.1 ≠ (TAL b).2.1 := by decide +kernel
theorem tokAL : ∀ k, k < 3 → parseFieldDescriptor (TAL k).2.2.1 = some (tyAL k) := by decide +kernel
def TWI : u_T := fun k => match k with
  | 0 => ("SpannedCells$Widths", "least", "LSpannedCells$Lines;", true)
  | 1 => ("SpannedCells$Widths", "most", "LSpannedCells$Lines;", true)
  | 2 => ("SpannedCells$Widths", "chosen", "LSpannedCells$Lines;", true)
  | _ => ("SpannedCells$Widths", "weights", "LSpannedCells$Lines;", true)
def tyWI : Nat → FieldType := fun k => match k with
  | 0 => .object "SpannedCells$Lines"
  | 1 => .object "SpannedCells$Lines"
  | 2 => .object "SpannedCells$Lines"
  | _ => .object "SpannedCells$Lines"
theorem nokWI : ∀ a, a < 4 → ∀ b, b < 4 → a ≠ b → (TWI a).2.1 ≠ (TWI b).2.1 := by decide +kernel
theorem tokWI : ∀ k, k < 4 → parseFieldDescriptor (TWI k).2.2.1 = some (tyWI k) := by decide +kernel
def TLI : u_T := fun k => match k with
  | _ => ("SpannedCells$Lines", "sizes", "[I", true)
def tyLI : Nat → FieldType := fun k => match k with
  | _ => .array .int
theorem nokLI : ∀ a, a < 1 → ∀ b, b < 1 → a ≠ b → (TLI a).2.1 ≠ (TLI b).2.1 := by decide +kernel
theorem tokLI : ∀ k, k < 1 → parseFieldDescriptor (TLI k).2.2.1 = some (tyLI k) := by decide +kernel
def THE : u_T := fun k => match k with
  | _ => ("SpannedCells$Heights", "needed", "LSpannedCells$Lines;", true)
def tyHE : Nat → FieldType := fun k => match k with
  | _ => .object "SpannedCells$Lines"
theorem nokHE : ∀ a, a < 1 → ∀ b, b < 1 → a ≠ b → (THE a).2.1 ≠ (THE b).2.1 := by decide +kernel
theorem tokHE : ∀ k, k < 1 → parseFieldDescriptor (THE k).2.2.1 = some (tyHE k) := by decide +kernel
def TMD : u_T := fun k => match k with
  | 0 => ("SpannedCellsModel", "groups", "I", false)
  | 1 => ("SpannedCellsModel", "bases", "[I", true)
  | 2 => ("SpannedCellsModel", "begun", "[I", true)
  | 3 => ("SpannedCellsModel", "cells", "I", false)
  | 4 => ("SpannedCellsModel", "lefts", "[I", true)
  | 5 => ("SpannedCellsModel", "tops", "[I", true)
  | 6 => ("SpannedCellsModel", "across", "[I", true)
  | 7 => ("SpannedCellsModel", "wants", "[I", true)
  | 8 => ("SpannedCellsModel", "groupOf", "[I", true)
  | 9 => ("SpannedCellsModel", "leasts", "[I", true)
  | 10 => ("SpannedCellsModel", "mosts", "[I", true)
  | 11 => ("SpannedCellsModel", "needs", "[I", true)
  | 12 => ("SpannedCellsModel", "thick", "[I", true)
  | 13 => ("SpannedCellsModel", "ranks", "[I", true)
  | 14 => ("SpannedCellsModel", "rowGroup", "I", false)
  | 15 => ("SpannedCellsModel", "rowNumber", "I", false)
  | 16 => ("SpannedCellsModel", "rowEnd", "I", false)
  | 17 => ("SpannedCellsModel", "space", "I", false)
  | 18 => ("SpannedCellsModel", "gap", "I", false)
  | 19 => ("SpannedCellsModel", "fixed", "Z", false)
  | 20 => ("SpannedCellsModel", "least", "[I", true)
  | 21 => ("SpannedCellsModel", "most", "[I", true)
  | 22 => ("SpannedCellsModel", "width", "[I", true)
  | 23 => ("SpannedCellsModel", "height", "[I", true)
  | 24 => ("SpannedCellsModel", "given", "[Z", true)
  | _ => ("SpannedCellsModel", "weights", "[I", true)
def tyMD : Nat → FieldType := fun k => match k with
  | 0 => .int
  | 1 => .array .int
  | 2 => .array .int
  | 3 => .int
  | 4 => .array .int
  | 5 => .array .int
  | 6 => .array .int
  | 7 => .array .int
  | 8 => .array .int
  | 9 => .array .int
  | 10 => .array .int
  | 11 => .array .int
  | 12 => .array .int
  | 13 => .array .int
  | 14 => .int
  | 15 => .int
  | 16 => .int
  | 17 => .int
  | 18 => .int
  | 19 => .boolean
  | 20 => .array .int
  | 21 => .array .int
  | 22 => .array .int
  | 23 => .array .int
  | 24 => .array .boolean
  | _ => .array .int
theorem nokMD : ∀ a, a < 26 → ∀ b, b < 26 → a ≠ b → (TMD a).2.1 ≠ (TMD b).2.1 := by decide +kernel
theorem tokMD : ∀ k, k < 26 → parseFieldDescriptor (TMD k).2.2.1 = some (tyMD k) := by decide +kernel
def TCE : u_T := fun k => match k with
  | 0 => ("SpannedCells$Cell", "left", "I", true)
  | 1 => ("SpannedCells$Cell", "top", "I", true)
  | 2 => ("SpannedCells$Cell", "columns", "I", true)
  | 3 => ("SpannedCells$Cell", "least", "I", true)
  | 4 => ("SpannedCells$Cell", "most", "I", true)
  | 5 => ("SpannedCells$Cell", "need", "I", true)
  | 6 => ("SpannedCells$Cell", "growing", "Z", true)
  | 7 => ("SpannedCells$Cell", "rows", "I", false)
  | 8 => ("SpannedCells$Cell", "thickness", "I", false)
  | _ => ("SpannedCells$Cell", "rank", "I", false)
def tyCE : Nat → FieldType := fun k => match k with
  | 0 => .int
  | 1 => .int
  | 2 => .int
  | 3 => .int
  | 4 => .int
  | 5 => .int
  | 6 => .boolean
  | 7 => .int
  | 8 => .int
  | _ => .int
theorem nokCE : ∀ a, a < 10 → ∀ b, b < 10 → a ≠ b → (TCE a).2.1 ≠ (TCE b).2.1 := by decide +kernel
theorem tokCE : ∀ k, k < 10 → parseFieldDescriptor (TCE k).2.2.1 = some (tyCE k) := by decide +kernel
abbrev RSC : String := "SpannedCells"
abbrev RCE : String := "SpannedCells$Cell"
abbrev RGR : String := "SpannedCells$Grid"
abbrev RLI : String := "SpannedCells$Lines"
abbrev RWI : String := "SpannedCells$Widths"
abbrev RHE : String := "SpannedCells$Heights"
abbrev RMD : String := "SpannedCellsModel"
abbrev RLW : String := "SpannedCellsLaw"
abbrev RAL : String := "java/util/ArrayList"
abbrev RAB : String := "java/util/AbstractList"
abbrev RAC : String := "java/util/AbstractCollection"
abbrev ROB : String := "java/lang/Object"
abbrev RMA : String := "java/lang/Math"
abbrev RAR : String := "java/util/Arrays"
abbrev ROS : String := "java/util/Objects"
abbrev RPR : String := "jdk/internal/util/Preconditions"
abbrev RAS : String := "jdk/internal/util/ArraysSupport"
abbrev RSY : String := "java/lang/System"
abbrev vwCl : List vw_C := [(RSC, TSC, 6), (RGR, TGR, 6), (RAL, TAL, 3), (RWI, TWI, 4), (RLI, TLI, 1), (RHE, THE, 1), (RMD, TMD, 26), (RCE, TCE, 10)]
def zT : List Cond := lw_tbl.filter goodWord
theorem z_mem {w : Cond} (i : Nat) (h : lw_tbl[i]? = some w) (hg : goodWord w = true) : w ∈ zT := List.mem_filter.mpr ⟨List.mem_of_getElem? h, hg⟩
theorem zT_in : ∀ w ∈ zT, w ∈ lw_tbl := fun _ h => (List.mem_filter.mp h).1
theorem zT_good {Ts : List Cond} (h : ∀ w ∈ zT, w ∈ Ts) : GoodIn Ts zT := fun w hw => ⟨h w hw, good_of_word (List.mem_filter.mp hw).2⟩
abbrev cLW_law : ByteArray := code
abbrev cAB_init : ByteArray := prog_15_method_1_code
abbrev yAB_init : MethodName := ⟨"java/util/AbstractList", "<init>", "()V"⟩
abbrev wAB_init : List Cond := .code yAB_init cAB_init 1 none :: zT
abbrev cAC_init : ByteArray := prog_14_method_1_code
abbrev yAC_init : MethodName := ⟨"java/util/AbstractCollection", "<init>", "()V"⟩
abbrev wAC_init : List Cond := .code yAC_init cAC_init 1 none :: zT
abbrev cAL_add : ByteArray := prog_16_method_25_code
abbrev yAL_add : MethodName := ⟨"java/util/ArrayList", "add", "(Ljava/lang/Object;)Z"⟩
abbrev wAL_add : List Cond := .code yAL_add cAL_add 2 (some .boolean) :: zT
abbrev cAL_add_41 : ByteArray := prog_16_method_24_code
abbrev yAL_add_41 : MethodName := ⟨"java/util/ArrayList", "add", "(Ljava/lang/Object;[Ljava/lang/Object;I)V"⟩
abbrev wAL_add_41 : List Cond := .code yAL_add_41 cAL_add_41 4 none :: zT
abbrev cAL_clear : ByteArray := prog_16_method_40_code
abbrev yAL_clear : MethodName := ⟨"java/util/ArrayList", "clear", "()V"⟩
abbrev wAL_clear : List Cond := .code yAL_clear cAL_clear 4 none :: zT
abbrev cAL_elementData : ByteArray := prog_16_method_18_code
abbrev yAL_elementData : MethodName := ⟨"java/util/ArrayList", "elementData", "(I)Ljava/lang/Object;"⟩
abbrev wAL_elementData : List Cond := .code yAL_elementData cAL_elementData 2 (some (.object "java/lang/Object")) :: zT
abbrev cAL_get : ByteArray := prog_16_method_20_code
abbrev yAL_get : MethodName := ⟨"java/util/ArrayList", "get", "(I)Ljava/lang/Object;"⟩
abbrev wAL_get : List Cond := .code yAL_get cAL_get 2 (some (.object "java/lang/Object")) :: zT
abbrev cAL_grow : ByteArray := prog_16_method_7_code
abbrev yAL_grow : MethodName := ⟨"java/util/ArrayList", "grow", "()[Ljava/lang/Object;"⟩
abbrev wAL_grow : List Cond := .code yAL_grow cAL_grow 1 (some (.array (.object "java/lang/Object"))) :: zT
abbrev cAL_grow_22 : ByteArray := prog_16_method_6_code
abbrev yAL_grow_22 : MethodName := ⟨"java/util/ArrayList", "grow", "(I)[Ljava/lang/Object;"⟩
abbrev wAL_grow_22 : List Cond := .code yAL_grow_22 cAL_grow_22 4 (some (.array (.object "java/lang/Object"))) :: zT
abbrev cAL_init : ByteArray := prog_16_method_2_code
abbrev yAL_init : MethodName := ⟨"java/util/ArrayList", "<init>", "()V"⟩
abbrev wAL_init : List Cond := .code yAL_init cAL_init 1 none :: zT
abbrev cAL_size : ByteArray := prog_16_method_8_code
abbrev yAL_size : MethodName := ⟨"java/util/ArrayList", "size", "()I"⟩
abbrev wAL_size : List Cond := .code yAL_size cAL_size 1 (some .int) :: zT
abbrev cAR_copyOf : ByteArray := prog_17_method_119_code
abbrev yAR_copyOf : MethodName := ⟨"java/util/Arrays", "copyOf", "([Ljava/lang/Object;I)[Ljava/lang/Object;"⟩
abbrev wAR_copyOf : List Cond := .code yAR_copyOf cAR_copyOf 2 (some (.array (.object "java/lang/Object"))) :: zT
abbrev cAR_copyOf_58 : ByteArray := prog_17_method_120_code
abbrev yAR_copyOf_58 : MethodName := ⟨"java/util/Arrays", "copyOf", "([Ljava/lang/Object;ILjava/lang/Class;)[Ljava/lang/Object;"⟩
abbrev wAR_copyOf_58 : List Cond := .code yAR_copyOf_58 cAR_copyOf_58 4 (some (.array (.object "java/lang/Object"))) :: zT
abbrev cAR_fill : ByteArray := prog_17_method_103_code
abbrev yAR_fill : MethodName := ⟨"java/util/Arrays", "fill", "([II)V"⟩
abbrev wAR_fill : List Cond := .code yAR_fill cAR_fill 4 none :: zT
abbrev cAS_hugeLength : ByteArray := prog_23_method_28_code
abbrev yAS_hugeLength : MethodName := ⟨"jdk/internal/util/ArraysSupport", "hugeLength", "(II)I"⟩
abbrev wAS_hugeLength : List Cond := .code yAS_hugeLength cAS_hugeLength 3 (some .int) :: zT
abbrev cAS_newLength : ByteArray := prog_23_method_27_code
abbrev yAS_newLength : MethodName := ⟨"jdk/internal/util/ArraysSupport", "newLength", "(III)I"⟩
abbrev wAS_newLength : List Cond := .code yAS_newLength cAS_newLength 4 (some .int) :: zT
abbrev cCE_bottom : ByteArray := prog_2_method_3_code
abbrev yCE_bottom : MethodName := ⟨"SpannedCells$Cell", "bottom", "()I"⟩
abbrev wCE_bottom : List Cond := .code yCE_bottom cCE_bottom 1 (some .int) :: zT
abbrev cCE_frame : ByteArray := prog_2_method_6_code
abbrev yCE_frame : MethodName := ⟨"SpannedCells$Cell", "frame", "(II)V"⟩
abbrev wCE_frame : List Cond := .code yCE_frame cCE_frame 3 none :: zT
abbrev cCE_growTo : ByteArray := prog_2_method_5_code
abbrev yCE_growTo : MethodName := ⟨"SpannedCells$Cell", "growTo", "(I)V"⟩
abbrev wCE_growTo : List Cond := .code yCE_growTo cCE_growTo 2 none :: zT
abbrev cCE_init : ByteArray := prog_2_method_1_code
abbrev yCE_init : MethodName := ⟨"SpannedCells$Cell", "<init>", "(IIIIIII)V"⟩
abbrev wCE_init : List Cond := .code yCE_init cCE_init 8 none :: zT
abbrev cCE_prevailsOver : ByteArray := prog_2_method_7_code
abbrev yCE_prevailsOver : MethodName := ⟨"SpannedCells$Cell", "prevailsOver", "(LSpannedCells$Cell;)Z"⟩
abbrev wCE_prevailsOver : List Cond := .code yCE_prevailsOver cCE_prevailsOver 2 (some .boolean) :: zT
abbrev cCE_right : ByteArray := prog_2_method_2_code
abbrev yCE_right : MethodName := ⟨"SpannedCells$Cell", "right", "()I"⟩
abbrev wCE_right : List Cond := .code yCE_right cCE_right 1 (some .int) :: zT
abbrev cCE_takes : ByteArray := prog_2_method_4_code
abbrev yCE_takes : MethodName := ⟨"SpannedCells$Cell", "takes", "(II)Z"⟩
abbrev wCE_takes : List Cond := .code yCE_takes cCE_takes 3 (some .boolean) :: zT
abbrev cGR_beginGroup : ByteArray := prog_3_method_3_code
abbrev yGR_beginGroup : MethodName := ⟨"SpannedCells$Grid", "beginGroup", "()I"⟩
abbrev wGR_beginGroup : List Cond := .code yGR_beginGroup cGR_beginGroup 1 (some .int) :: zT
abbrev cGR_beginRow : ByteArray := prog_3_method_4_code
abbrev yGR_beginRow : MethodName := ⟨"SpannedCells$Grid", "beginRow", "()I"⟩
abbrev wGR_beginRow : List Cond := .code yGR_beginRow cGR_beginRow 2 (some .int) :: zT
abbrev cGR_beginsInColumn : ByteArray := prog_3_method_19_code
abbrev yGR_beginsInColumn : MethodName := ⟨"SpannedCells$Grid", "beginsInColumn", "(I)Z"⟩
abbrev wGR_beginsInColumn : List Cond := .code yGR_beginsInColumn cGR_beginsInColumn 3 (some .boolean) :: zT
abbrev cGR_beginsInRow : ByteArray := prog_3_method_20_code
abbrev yGR_beginsInRow : MethodName := ⟨"SpannedCells$Grid", "beginsInRow", "(I)Z"⟩
abbrev wGR_beginsInRow : List Cond := .code yGR_beginsInRow cGR_beginsInRow 3 (some .boolean) :: zT
abbrev cGR_cellAt : ByteArray := prog_3_method_12_code
abbrev yGR_cellAt : MethodName := ⟨"SpannedCells$Grid", "cellAt", "(I)LSpannedCells$Cell;"⟩
abbrev wGR_cellAt : List Cond := .code yGR_cellAt cGR_cellAt 2 (some (.object "SpannedCells$Cell")) :: zT
abbrev cGR_cellCount : ByteArray := prog_3_method_8_code
abbrev yGR_cellCount : MethodName := ⟨"SpannedCells$Grid", "cellCount", "()I"⟩
abbrev wGR_cellCount : List Cond := .code yGR_cellCount cGR_cellCount 1 (some .int) :: zT
abbrev cGR_columnCount : ByteArray := prog_3_method_9_code
abbrev yGR_columnCount : MethodName := ⟨"SpannedCells$Grid", "columnCount", "()I"⟩
abbrev wGR_columnCount : List Cond := .code yGR_columnCount cGR_columnCount 1 (some .int) :: zT
abbrev cGR_countEmptyColumns : ByteArray := prog_3_method_17_code
abbrev yGR_countEmptyColumns : MethodName := ⟨"SpannedCells$Grid", "countEmptyColumns", "()I"⟩
abbrev wGR_countEmptyColumns : List Cond := .code yGR_countEmptyColumns cGR_countEmptyColumns 3 (some .int) :: zT
abbrev cGR_countEmptyRows : ByteArray := prog_3_method_18_code
abbrev yGR_countEmptyRows : MethodName := ⟨"SpannedCells$Grid", "countEmptyRows", "()I"⟩
abbrev wGR_countEmptyRows : List Cond := .code yGR_countEmptyRows cGR_countEmptyRows 3 (some .int) :: zT
abbrev cGR_countOverlaps : ByteArray := prog_3_method_15_code
abbrev yGR_countOverlaps : MethodName := ⟨"SpannedCells$Grid", "countOverlaps", "()I"⟩
abbrev wGR_countOverlaps : List Cond := .code yGR_countOverlaps cGR_countOverlaps 3 (some .int) :: zT
abbrev cGR_countOwnedSlots : ByteArray := prog_3_method_16_code
abbrev yGR_countOwnedSlots : MethodName := ⟨"SpannedCells$Grid", "countOwnedSlots", "()I"⟩
abbrev wGR_countOwnedSlots : List Cond := .code yGR_countOwnedSlots cGR_countOwnedSlots 4 (some .int) :: zT
abbrev cGR_drawnBetween : ByteArray := prog_3_method_21_code
abbrev yGR_drawnBetween : MethodName := ⟨"SpannedCells$Grid", "drawnBetween", "(II)I"⟩
abbrev wGR_drawnBetween : List Cond := .code yGR_drawnBetween cGR_drawnBetween 3 (some .int) :: zT
abbrev cGR_empty : ByteArray := prog_3_method_2_code
abbrev yGR_empty : MethodName := ⟨"SpannedCells$Grid", "empty", "()V"⟩
abbrev wGR_empty : List Cond := .code yGR_empty cGR_empty 1 none :: zT
abbrev cGR_extendGroupTo : ByteArray := prog_3_method_7_code
abbrev yGR_extendGroupTo : MethodName := ⟨"SpannedCells$Grid", "extendGroupTo", "(I)V"⟩
abbrev wGR_extendGroupTo : List Cond := .code yGR_extendGroupTo cGR_extendGroupTo 4 none :: zT
abbrev cGR_firstFreeColumn : ByteArray := prog_3_method_6_code
abbrev yGR_firstFreeColumn : MethodName := ⟨"SpannedCells$Grid", "firstFreeColumn", "(I)I"⟩
abbrev wGR_firstFreeColumn : List Cond := .code yGR_firstFreeColumn cGR_firstFreeColumn 3 (some .int) :: zT
abbrev cGR_hasCell : ByteArray := prog_3_method_11_code
abbrev yGR_hasCell : MethodName := ⟨"SpannedCells$Grid", "hasCell", "(I)Z"⟩
abbrev wGR_hasCell : List Cond := .code yGR_hasCell cGR_hasCell 2 (some .boolean) :: zT
abbrev cGR_hasSlot : ByteArray := prog_3_method_13_code
abbrev yGR_hasSlot : MethodName := ⟨"SpannedCells$Grid", "hasSlot", "(II)Z"⟩
abbrev wGR_hasSlot : List Cond := .code yGR_hasSlot cGR_hasSlot 3 (some .boolean) :: zT
abbrev cGR_init : ByteArray := prog_3_method_1_code
abbrev yGR_init : MethodName := ⟨"SpannedCells$Grid", "<init>", "()V"⟩
abbrev wGR_init : List Cond := .code yGR_init cGR_init 1 none :: zT
abbrev cGR_ownerOf : ByteArray := prog_3_method_14_code
abbrev yGR_ownerOf : MethodName := ⟨"SpannedCells$Grid", "ownerOf", "(II)I"⟩
abbrev wGR_ownerOf : List Cond := .code yGR_ownerOf cGR_ownerOf 4 (some .int) :: zT
abbrev cGR_putCell : ByteArray := prog_3_method_5_code
abbrev yGR_putCell : MethodName := ⟨"SpannedCells$Grid", "putCell", "(IIIII)I"⟩
abbrev wGR_putCell : List Cond := .code yGR_putCell cGR_putCell 8 (some .int) :: zT
abbrev cGR_rowCount : ByteArray := prog_3_method_10_code
abbrev yGR_rowCount : MethodName := ⟨"SpannedCells$Grid", "rowCount", "()I"⟩
abbrev wGR_rowCount : List Cond := .code yGR_rowCount cGR_rowCount 1 (some .int) :: zT
abbrev cHE_init : ByteArray := prog_4_method_1_code
abbrev yHE_init : MethodName := ⟨"SpannedCells$Heights", "<init>", "()V"⟩
abbrev wHE_init : List Cond := .code yHE_init cHE_init 1 none :: zT
abbrev cHE_measure : ByteArray := prog_4_method_2_code
abbrev yHE_measure : MethodName := ⟨"SpannedCells$Heights", "measure", "(LSpannedCells$Grid;I)V"⟩
abbrev wHE_measure : List Cond := .code yHE_measure cHE_measure 6 none :: zT
abbrev cLI_copyOf : ByteArray := prog_5_method_6_code
abbrev yLI_copyOf : MethodName := ⟨"SpannedCells$Lines", "copyOf", "(LSpannedCells$Lines;)V"⟩
abbrev wLI_copyOf : List Cond := .code yLI_copyOf cLI_copyOf 2 none :: zT
abbrev cLI_init : ByteArray := prog_5_method_1_code
abbrev yLI_init : MethodName := ⟨"SpannedCells$Lines", "<init>", "()V"⟩
abbrev wLI_init : List Cond := .code yLI_init cLI_init 1 none :: zT
abbrev cLI_raiseTo : ByteArray := prog_5_method_5_code
abbrev yLI_raiseTo : MethodName := ⟨"SpannedCells$Lines", "raiseTo", "(LSpannedCells$Lines;II)V"⟩
abbrev wLI_raiseTo : List Cond := .code yLI_raiseTo cLI_raiseTo 5 none :: zT
abbrev cLI_reach : ByteArray := prog_5_method_8_code
abbrev yLI_reach : MethodName := ⟨"SpannedCells$Lines", "reach", "(III)I"⟩
abbrev wLI_reach : List Cond := .code yLI_reach cLI_reach 4 (some .int) :: zT
abbrev cLI_reset : ByteArray := prog_5_method_2_code
abbrev yLI_reset : MethodName := ⟨"SpannedCells$Lines", "reset", "()V"⟩
abbrev wLI_reset : List Cond := .code yLI_reset cLI_reset 1 none :: zT
abbrev cLI_set : ByteArray := prog_5_method_4_code
abbrev yLI_set : MethodName := ⟨"SpannedCells$Lines", "set", "(II)V"⟩
abbrev wLI_set : List Cond := .code yLI_set cLI_set 3 none :: zT
abbrev cLI_shareOut : ByteArray := prog_5_method_11_code
abbrev yLI_shareOut : MethodName := ⟨"SpannedCells$Lines", "shareOut", "(ILSpannedCells$Lines;II)V"⟩
abbrev wLI_shareOut : List Cond := .code yLI_shareOut cLI_shareOut 12 none :: zT
abbrev cLI_sizeOf : ByteArray := prog_5_method_3_code
abbrev yLI_sizeOf : MethodName := ⟨"SpannedCells$Lines", "sizeOf", "(I)I"⟩
abbrev wLI_sizeOf : List Cond := .code yLI_sizeOf cLI_sizeOf 2 (some .int) :: zT
abbrev cLI_startOf : ByteArray := prog_5_method_9_code
abbrev yLI_startOf : MethodName := ⟨"SpannedCells$Lines", "startOf", "(II)I"⟩
abbrev wLI_startOf : List Cond := .code yLI_startOf cLI_startOf 3 (some .int) :: zT
abbrev cLI_stretch : ByteArray := prog_5_method_10_code
abbrev yLI_stretch : MethodName := ⟨"SpannedCells$Lines", "stretch", "(IILSpannedCells$Lines;II)V"⟩
abbrev wLI_stretch : List Cond := .code yLI_stretch cLI_stretch 7 none :: zT
abbrev cLI_sum : ByteArray := prog_5_method_7_code
abbrev yLI_sum : MethodName := ⟨"SpannedCells$Lines", "sum", "(II)I"⟩
abbrev wLI_sum : List Cond := .code yLI_sum cLI_sum 5 (some .int) :: zT
abbrev cMA_min : ByteArray := prog_12_method_69_code
abbrev yMA_min : MethodName := ⟨"java/lang/Math", "min", "(II)I"⟩
abbrev wMA_min : List Cond := .code yMA_min cMA_min 2 (some .int) :: zT
abbrev cMD_border : ByteArray := prog_8_method_8_code
abbrev yMD_border : MethodName := ⟨"SpannedCellsModel", "border", "(III)Z"⟩
abbrev wMD_border : List Cond := .code yMD_border cMD_border 4 (some .boolean) :: zT
abbrev cMD_cell : ByteArray := prog_8_method_6_code
abbrev yMD_cell : MethodName := ⟨"SpannedCellsModel", "cell", "(IIIII)I"⟩
abbrev wMD_cell : List Cond := .code yMD_cell cMD_cell 9 (some .int) :: zT
abbrev cMD_clear : ByteArray := prog_8_method_10_code
abbrev yMD_clear : MethodName := ⟨"SpannedCellsModel", "clear", "()I"⟩
abbrev wMD_clear : List Cond := .code yMD_clear cMD_clear 2 (some .int) :: zT
abbrev cMD_columns : ByteArray := prog_8_method_11_code
abbrev yMD_columns : MethodName := ⟨"SpannedCellsModel", "columns", "()I"⟩
abbrev wMD_columns : List Cond := .code yMD_columns cMD_columns 3 (some .int) :: zT
abbrev cMD_down : ByteArray := prog_8_method_13_code
abbrev yMD_down : MethodName := ⟨"SpannedCellsModel", "down", "(I)I"⟩
abbrev wMD_down : List Cond := .code yMD_down cMD_down 2 (some .int) :: zT
abbrev cMD_edge : ByteArray := prog_8_method_35_code
abbrev yMD_edge : MethodName := ⟨"SpannedCellsModel", "edge", "(IIZ)I"⟩
abbrev wMD_edge : List Cond := .code yMD_edge cMD_edge 6 (some .int) :: zT
abbrev cMD_empties : ByteArray := prog_8_method_18_code
abbrev yMD_empties : MethodName := ⟨"SpannedCellsModel", "empties", "()I"⟩
abbrev wMD_empties : List Cond := .code yMD_empties cMD_empties 6 (some .int) :: zT
abbrev cMD_endOf : ByteArray := prog_8_method_2_code
abbrev yMD_endOf : MethodName := ⟨"SpannedCellsModel", "endOf", "(I)I"⟩
abbrev wMD_endOf : List Cond := .code yMD_endOf cMD_endOf 5 (some .int) :: zT
abbrev cMD_findHeights : ByteArray := prog_8_method_29_code
abbrev yMD_findHeights : MethodName := ⟨"SpannedCellsModel", "findHeights", "()V"⟩
abbrev wMD_findHeights : List Cond := .code yMD_findHeights cMD_findHeights 5 none :: zT
abbrev cMD_findWidths : ByteArray := prog_8_method_28_code
abbrev yMD_findWidths : MethodName := ⟨"SpannedCellsModel", "findWidths", "()V"⟩
abbrev wMD_findWidths : List Cond := .code yMD_findWidths cMD_findWidths 6 none :: zT
abbrev cMD_fixWidths : ByteArray := prog_8_method_27_code
abbrev yMD_fixWidths : MethodName := ⟨"SpannedCellsModel", "fixWidths", "()V"⟩
abbrev wMD_fixWidths : List Cond := .code yMD_fixWidths cMD_fixWidths 7 none :: zT
abbrev cMD_greater : ByteArray := prog_8_method_22_code
abbrev yMD_greater : MethodName := ⟨"SpannedCellsModel", "greater", "(II)I"⟩
abbrev wMD_greater : List Cond := .code yMD_greater cMD_greater 2 (some .int) :: zT
abbrev cMD_group : ByteArray := prog_8_method_3_code
abbrev yMD_group : MethodName := ⟨"SpannedCellsModel", "group", "()I"⟩
abbrev wMD_group : List Cond := .code yMD_group cMD_group 1 (some .int) :: zT
abbrev cMD_high : ByteArray := prog_8_method_31_code
abbrev yMD_high : MethodName := ⟨"SpannedCellsModel", "high", "(I)I"⟩
abbrev wMD_high : List Cond := .code yMD_high cMD_high 2 (some .int) :: zT
abbrev cMD_howMany : ByteArray := prog_8_method_15_code
abbrev yMD_howMany : MethodName := ⟨"SpannedCellsModel", "howMany", "(II)I"⟩
abbrev wMD_howMany : List Cond := .code yMD_howMany cMD_howMany 5 (some .int) :: zT
abbrev cMD_init : ByteArray := prog_8_method_1_code
abbrev yMD_init : MethodName := ⟨"SpannedCellsModel", "<init>", "()V"⟩
abbrev wMD_init : List Cond := .code yMD_init cMD_init 1 none :: zT
abbrev cMD_isCell : ByteArray := prog_8_method_7_code
abbrev yMD_isCell : MethodName := ⟨"SpannedCellsModel", "isCell", "(I)Z"⟩
abbrev wMD_isCell : List Cond := .code yMD_isCell cMD_isCell 2 (some .boolean) :: zT
abbrev cMD_isTaken : ByteArray := prog_8_method_5_code
abbrev yMD_isTaken : MethodName := ⟨"SpannedCellsModel", "isTaken", "(I)Z"⟩
abbrev wMD_isTaken : List Cond := .code yMD_isTaken cMD_isTaken 5 (some .boolean) :: zT
abbrev cMD_layout : ByteArray := prog_8_method_9_code
abbrev yMD_layout : MethodName := ⟨"SpannedCellsModel", "layout", "(IIZ)Z"⟩
abbrev wMD_layout : List Cond := .code yMD_layout cMD_layout 4 (some .boolean) :: zT
abbrev cMD_measure : ByteArray := prog_8_method_25_code
abbrev yMD_measure : MethodName := ⟨"SpannedCellsModel", "measure", "()V"⟩
abbrev wMD_measure : List Cond := .code yMD_measure cMD_measure 3 none :: zT
abbrev cMD_measureCell : ByteArray := prog_8_method_24_code
abbrev yMD_measureCell : MethodName := ⟨"SpannedCellsModel", "measureCell", "(I)V"⟩
abbrev wMD_measureCell : List Cond := .code yMD_measureCell cMD_measureCell 8 none :: zT
abbrev cMD_overlaps : ByteArray := prog_8_method_17_code
abbrev yMD_overlaps : MethodName := ⟨"SpannedCellsModel", "overlaps", "()I"⟩
abbrev wMD_overlaps : List Cond := .code yMD_overlaps cMD_overlaps 4 (some .int) :: zT
abbrev cMD_place : ByteArray := prog_8_method_32_code
abbrev yMD_place : MethodName := ⟨"SpannedCellsModel", "place", "(II)I"⟩
abbrev wMD_place : List Cond := .code yMD_place cMD_place 7 (some .int) :: zT
abbrev cMD_room : ByteArray := prog_8_method_26_code
abbrev yMD_room : MethodName := ⟨"SpannedCellsModel", "room", "()I"⟩
abbrev wMD_room : List Cond := .code yMD_room cMD_room 1 (some .int) :: zT
abbrev cMD_row : ByteArray := prog_8_method_4_code
abbrev yMD_row : MethodName := ⟨"SpannedCellsModel", "row", "()I"⟩
abbrev wMD_row : List Cond := .code yMD_row cMD_row 3 (some .int) :: zT
abbrev cMD_rows : ByteArray := prog_8_method_12_code
abbrev yMD_rows : MethodName := ⟨"SpannedCellsModel", "rows", "()I"⟩
abbrev wMD_rows : List Cond := .code yMD_rows cMD_rows 1 (some .int) :: zT
abbrev cMD_share : ByteArray := prog_8_method_20_code
abbrev yMD_share : MethodName := ⟨"SpannedCellsModel", "share", "(I[III)V"⟩
abbrev wMD_share : List Cond := .code yMD_share cMD_share 9 none :: zT
abbrev cMD_size : ByteArray := prog_8_method_33_code
abbrev yMD_size : MethodName := ⟨"SpannedCellsModel", "size", "(Z)I"⟩
abbrev wMD_size : List Cond := .code yMD_size cMD_size 3 (some .int) :: zT
abbrev cMD_slot : ByteArray := prog_8_method_16_code
abbrev yMD_slot : MethodName := ⟨"SpannedCellsModel", "slot", "(II)I"⟩
abbrev wMD_slot : List Cond := .code yMD_slot cMD_slot 5 (some .int) :: zT
abbrev cMD_span : ByteArray := prog_8_method_19_code
abbrev yMD_span : MethodName := ⟨"SpannedCellsModel", "span", "(I)I"⟩
abbrev wMD_span : List Cond := .code yMD_span cMD_span 2 (some .int) :: zT
abbrev cMD_stronger : ByteArray := prog_8_method_34_code
abbrev yMD_stronger : MethodName := ⟨"SpannedCellsModel", "stronger", "(II)I"⟩
abbrev wMD_stronger : List Cond := .code yMD_stronger cMD_stronger 3 (some .int) :: zT
abbrev cMD_sumOf : ByteArray := prog_8_method_21_code
abbrev yMD_sumOf : MethodName := ⟨"SpannedCellsModel", "sumOf", "([III)I"⟩
abbrev wMD_sumOf : List Cond := .code yMD_sumOf cMD_sumOf 5 (some .int) :: zT
abbrev cMD_takes : ByteArray := prog_8_method_14_code
abbrev yMD_takes : MethodName := ⟨"SpannedCellsModel", "takes", "(III)Z"⟩
abbrev wMD_takes : List Cond := .code yMD_takes cMD_takes 4 (some .boolean) :: zT
abbrev cMD_weigh : ByteArray := prog_8_method_23_code
abbrev yMD_weigh : MethodName := ⟨"SpannedCellsModel", "weigh", "([I)V"⟩
abbrev wMD_weigh : List Cond := .code yMD_weigh cMD_weigh 3 none :: zT
abbrev cMD_wide : ByteArray := prog_8_method_30_code
abbrev yMD_wide : MethodName := ⟨"SpannedCellsModel", "wide", "(II)I"⟩
abbrev wMD_wide : List Cond := .code yMD_wide cMD_wide 3 (some .int) :: zT
abbrev cOS_checkIndex : ByteArray := prog_20_method_17_code
abbrev yOS_checkIndex : MethodName := ⟨"java/util/Objects", "checkIndex", "(II)I"⟩
abbrev wOS_checkIndex : List Cond := .code yOS_checkIndex cOS_checkIndex 2 (some .int) :: zT
abbrev cPR_checkIndex : ByteArray := prog_24_method_11_code
abbrev yPR_checkIndex : MethodName := ⟨"jdk/internal/util/Preconditions", "checkIndex", "(IILjava/util/function/BiFunction;)I"⟩
abbrev wPR_checkIndex : List Cond := .code yPR_checkIndex cPR_checkIndex 3 (some .int) :: zT
abbrev cSC_border : ByteArray := prog_1_method_5_code
abbrev ySC_border : MethodName := ⟨"SpannedCells", "border", "(III)Z"⟩
abbrev wSC_border : List Cond := .code ySC_border cSC_border 4 (some .boolean) :: zT
abbrev cSC_cell : ByteArray := prog_1_method_4_code
abbrev ySC_cell : MethodName := ⟨"SpannedCells", "cell", "(IIIII)I"⟩
abbrev wSC_cell : List Cond := .code ySC_cell cSC_cell 9 (some .int) :: zT
abbrev cSC_chosenWidths : ByteArray := prog_1_method_20_code
abbrev ySC_chosenWidths : MethodName := ⟨"SpannedCells", "chosenWidths", "()LSpannedCells$Lines;"⟩
abbrev wSC_chosenWidths : List Cond := .code ySC_chosenWidths cSC_chosenWidths 2 (some (.object "SpannedCells$Lines")) :: zT
abbrev cSC_clear : ByteArray := prog_1_method_7_code
abbrev ySC_clear : MethodName := ⟨"SpannedCells", "clear", "()I"⟩
abbrev wSC_clear : List Cond := .code ySC_clear cSC_clear 2 (some .int) :: zT
abbrev cSC_columns : ByteArray := prog_1_method_8_code
abbrev ySC_columns : MethodName := ⟨"SpannedCells", "columns", "()I"⟩
abbrev wSC_columns : List Cond := .code ySC_columns cSC_columns 1 (some .int) :: zT
abbrev cSC_edge : ByteArray := prog_1_method_18_code
abbrev ySC_edge : MethodName := ⟨"SpannedCells", "edge", "(IIZ)I"⟩
abbrev wSC_edge : List Cond := .code ySC_edge cSC_edge 5 (some .int) :: zT
abbrev cSC_empties : ByteArray := prog_1_method_12_code
abbrev ySC_empties : MethodName := ⟨"SpannedCells", "empties", "()I"⟩
abbrev wSC_empties : List Cond := .code ySC_empties cSC_empties 1 (some .int) :: zT
abbrev cSC_group : ByteArray := prog_1_method_2_code
abbrev ySC_group : MethodName := ⟨"SpannedCells", "group", "()I"⟩
abbrev wSC_group : List Cond := .code ySC_group cSC_group 1 (some .int) :: zT
abbrev cSC_high : ByteArray := prog_1_method_15_code
abbrev ySC_high : MethodName := ⟨"SpannedCells", "high", "(I)I"⟩
abbrev wSC_high : List Cond := .code ySC_high cSC_high 2 (some .int) :: zT
abbrev cSC_init : ByteArray := prog_1_method_1_code
abbrev ySC_init : MethodName := ⟨"SpannedCells", "<init>", "()V"⟩
abbrev wSC_init : List Cond := .code ySC_init cSC_init 1 none :: zT
abbrev cSC_layout : ByteArray := prog_1_method_6_code
abbrev ySC_layout : MethodName := ⟨"SpannedCells", "layout", "(IIZ)Z"⟩
abbrev wSC_layout : List Cond := .code ySC_layout cSC_layout 4 (some .boolean) :: zT
abbrev cSC_measuredHeights : ByteArray := prog_1_method_21_code
abbrev ySC_measuredHeights : MethodName := ⟨"SpannedCells", "measuredHeights", "()LSpannedCells$Lines;"⟩
abbrev wSC_measuredHeights : List Cond := .code ySC_measuredHeights cSC_measuredHeights 1 (some (.object "SpannedCells$Lines")) :: zT
abbrev cSC_measuredWidths : ByteArray := prog_1_method_19_code
abbrev ySC_measuredWidths : MethodName := ⟨"SpannedCells", "measuredWidths", "()LSpannedCells$Widths;"⟩
abbrev wSC_measuredWidths : List Cond := .code ySC_measuredWidths cSC_measuredWidths 1 (some (.object "SpannedCells$Widths")) :: zT
abbrev cSC_overlaps : ByteArray := prog_1_method_11_code
abbrev ySC_overlaps : MethodName := ⟨"SpannedCells", "overlaps", "()I"⟩
abbrev wSC_overlaps : List Cond := .code ySC_overlaps cSC_overlaps 1 (some .int) :: zT
abbrev cSC_place : ByteArray := prog_1_method_16_code
abbrev ySC_place : MethodName := ⟨"SpannedCells", "place", "(II)I"⟩
abbrev wSC_place : List Cond := .code ySC_place cSC_place 4 (some .int) :: zT
abbrev cSC_row : ByteArray := prog_1_method_3_code
abbrev ySC_row : MethodName := ⟨"SpannedCells", "row", "()I"⟩
abbrev wSC_row : List Cond := .code ySC_row cSC_row 1 (some .int) :: zT
abbrev cSC_rows : ByteArray := prog_1_method_9_code
abbrev ySC_rows : MethodName := ⟨"SpannedCells", "rows", "()I"⟩
abbrev wSC_rows : List Cond := .code ySC_rows cSC_rows 1 (some .int) :: zT
abbrev cSC_size : ByteArray := prog_1_method_17_code
abbrev ySC_size : MethodName := ⟨"SpannedCells", "size", "(Z)I"⟩
abbrev wSC_size : List Cond := .code ySC_size cSC_size 2 (some .int) :: zT
abbrev cSC_slot : ByteArray := prog_1_method_10_code
abbrev ySC_slot : MethodName := ⟨"SpannedCells", "slot", "(II)I"⟩
abbrev wSC_slot : List Cond := .code ySC_slot cSC_slot 3 (some .int) :: zT
abbrev cSC_span : ByteArray := prog_1_method_13_code
abbrev ySC_span : MethodName := ⟨"SpannedCells", "span", "(I)I"⟩
abbrev wSC_span : List Cond := .code ySC_span cSC_span 3 (some .int) :: zT
abbrev cSC_wide : ByteArray := prog_1_method_14_code
abbrev ySC_wide : MethodName := ⟨"SpannedCells", "wide", "(II)I"⟩
abbrev wSC_wide : List Cond := .code ySC_wide cSC_wide 3 (some .int) :: zT
abbrev cSC_within : ByteArray := prog_1_method_22_code
abbrev ySC_within : MethodName := ⟨"SpannedCells", "within", "(III)Z"⟩
abbrev wSC_within : List Cond := .code ySC_within cSC_within 3 (some .boolean) :: zT
abbrev cWI_chooseByMeasures : ByteArray := prog_6_method_4_code
abbrev yWI_chooseByMeasures : MethodName := ⟨"SpannedCells$Widths", "chooseByMeasures", "(II)V"⟩
abbrev wWI_chooseByMeasures : List Cond := .code yWI_chooseByMeasures cWI_chooseByMeasures 5 none :: zT
abbrev cWI_chooseFixed : ByteArray := prog_6_method_6_code
abbrev yWI_chooseFixed : MethodName := ⟨"SpannedCells$Widths", "chooseFixed", "(LSpannedCells$Grid;II)V"⟩
abbrev wWI_chooseFixed : List Cond := .code yWI_chooseFixed cWI_chooseFixed 8 none :: zT
abbrev cWI_fit : ByteArray := prog_6_method_3_code
abbrev yWI_fit : MethodName := ⟨"SpannedCells$Widths", "fit", "(LSpannedCells$Cell;I)V"⟩
abbrev wWI_fit : List Cond := .code yWI_fit cWI_fit 3 none :: zT
abbrev cWI_init : ByteArray := prog_6_method_1_code
abbrev yWI_init : MethodName := ⟨"SpannedCells$Widths", "<init>", "()V"⟩
abbrev wWI_init : List Cond := .code yWI_init cWI_init 1 none :: zT
abbrev cWI_measure : ByteArray := prog_6_method_2_code
abbrev yWI_measure : MethodName := ⟨"SpannedCells$Widths", "measure", "(LSpannedCells$Grid;I)V"⟩
abbrev wWI_measure : List Cond := .code yWI_measure cWI_measure 5 none :: zT
abbrev cWI_weighByScope : ByteArray := prog_6_method_5_code
abbrev yWI_weighByScope : MethodName := ⟨"SpannedCells$Widths", "weighByScope", "(I)V"⟩
abbrev wWI_weighByScope : List Cond := .code yWI_weighByScope cWI_weighByScope 3 none :: zT
def zNest : List (String × Nat × MethodName × String) := [("SpannedCells", 9, ⟨"SpannedCells$Grid", "<init>", "()V"⟩, "SpannedCells"), ("SpannedCells", 18, ⟨"SpannedCells$Widths", "<init>", "()V"⟩, "SpannedCells"), ("SpannedCells$Widths", 11, ⟨"SpannedCells$Lines", "<init>", "()V"⟩, "SpannedCells"), ("SpannedCells", 25, ⟨"SpannedCells$Heights", "<init>", "()V"⟩, "SpannedCells"), ("SpannedCells$Heights", 11, ⟨"SpannedCells$Lines", "<init>", "()V"⟩, "SpannedCells"), ("SpannedCells$Grid", 77, ⟨"SpannedCells", "within", "(III)Z"⟩, "SpannedCells")]
end
section
theorem wd_0 : (Cond.selects "SpannedCells$Grid" yGR_extendGroupTo yGR_extendGroupTo) ∈ zT := z_mem 0 (by decide +kernel) (by decide +kernel)
theorem wd_1 : (Cond.selects "SpannedCells$Grid" yGR_firstFreeColumn yGR_firstFreeColumn) ∈ zT := z_mem 1 (by decide +kernel) (by decide +kernel)
theorem wd_2 : (Cond.selects "java/util/ArrayList" yAL_add_41 yAL_add_41) ∈ zT := z_mem 2 (by decide +kernel) (by decide +kernel)
theorem wd_3 : (Cond.selects "java/util/ArrayList" yAL_grow yAL_grow) ∈ zT := z_mem 3 (by decide +kernel) (by decide +kernel)
theorem wd_4 : (Cond.selects "java/util/ArrayList" yAL_grow_22 yAL_grow_22) ∈ zT := z_mem 4 (by decide +kernel) (by decide +kernel)
theorem wd_5 : (Cond.selects "SpannedCells$Grid" yGR_countOwnedSlots yGR_countOwnedSlots) ∈ zT := z_mem 5 (by decide +kernel) (by decide +kernel)
theorem wd_6 : (Cond.selects "SpannedCells$Grid" yGR_beginsInColumn yGR_beginsInColumn) ∈ zT := z_mem 6 (by decide +kernel) (by decide +kernel)
theorem wd_7 : (Cond.selects "SpannedCells$Grid" yGR_beginsInRow yGR_beginsInRow) ∈ zT := z_mem 7 (by decide +kernel) (by decide +kernel)
theorem wd_8 : (Cond.selects "SpannedCells" ySC_measuredWidths ySC_measuredWidths) ∈ zT := z_mem 8 (by decide +kernel) (by decide +kernel)
theorem wd_9 : (Cond.selects "SpannedCells$Widths" yWI_fit yWI_fit) ∈ zT := z_mem 9 (by decide +kernel) (by decide +kernel)
theorem wd_10 : (Cond.selects "SpannedCells" ySC_chosenWidths ySC_chosenWidths) ∈ zT := z_mem 10 (by decide +kernel) (by decide +kernel)
theorem wd_11 : (Cond.selects "SpannedCells$Widths" yWI_weighByScope yWI_weighByScope) ∈ zT := z_mem 11 (by decide +kernel) (by decide +kernel)
theorem wd_12 : (Cond.selects "SpannedCells" ySC_measuredHeights ySC_measuredHeights) ∈ zT := z_mem 12 (by decide +kernel) (by decide +kernel)
theorem wd_13 : (Cond.selects "SpannedCellsModel" yMD_endOf yMD_endOf) ∈ zT := z_mem 13 (by decide +kernel) (by decide +kernel)
theorem wd_14 : (Cond.selects "SpannedCellsModel" yMD_isTaken yMD_isTaken) ∈ zT := z_mem 14 (by decide +kernel) (by decide +kernel)
theorem wd_15 : (Cond.selects "SpannedCellsModel" yMD_isCell yMD_isCell) ∈ zT := z_mem 15 (by decide +kernel) (by decide +kernel)
theorem wd_16 : (Cond.selects "SpannedCellsModel" yMD_takes yMD_takes) ∈ zT := z_mem 16 (by decide +kernel) (by decide +kernel)
theorem wd_17 : (Cond.selects "SpannedCellsModel" yMD_down yMD_down) ∈ zT := z_mem 17 (by decide +kernel) (by decide +kernel)
theorem wd_18 : (Cond.selects "SpannedCellsModel" yMD_howMany yMD_howMany) ∈ zT := z_mem 18 (by decide +kernel) (by decide +kernel)
theorem wd_19 : (Cond.selects "SpannedCellsModel" yMD_findWidths yMD_findWidths) ∈ zT := z_mem 19 (by decide +kernel) (by decide +kernel)
theorem wd_20 : (Cond.selects "SpannedCellsModel" yMD_measure yMD_measure) ∈ zT := z_mem 20 (by decide +kernel) (by decide +kernel)
theorem wd_21 : (Cond.selects "SpannedCellsModel" yMD_measureCell yMD_measureCell) ∈ zT := z_mem 21 (by decide +kernel) (by decide +kernel)
theorem wd_22 : (Cond.selects "SpannedCellsModel" yMD_weigh yMD_weigh) ∈ zT := z_mem 22 (by decide +kernel) (by decide +kernel)
theorem wd_23 : (Cond.selects "SpannedCellsModel" yMD_share yMD_share) ∈ zT := z_mem 23 (by decide +kernel) (by decide +kernel)
theorem wd_24 : (Cond.selects "SpannedCellsModel" yMD_fixWidths yMD_fixWidths) ∈ zT := z_mem 24 (by decide +kernel) (by decide +kernel)
theorem wd_25 : (Cond.selects "SpannedCellsModel" yMD_room yMD_room) ∈ zT := z_mem 25 (by decide +kernel) (by decide +kernel)
theorem wd_26 : (Cond.selects "SpannedCellsModel" yMD_findHeights yMD_findHeights) ∈ zT := z_mem 26 (by decide +kernel) (by decide +kernel)
theorem wd_27 : (Cond.selects "SpannedCellsModel" yMD_stronger yMD_stronger) ∈ zT := z_mem 27 (by decide +kernel) (by decide +kernel)
theorem wd_29 : (Cond.initialized "SpannedCells") ∈ zT := z_mem 29 (by decide +kernel) (by decide +kernel)
theorem wd_30 : (Cond.initialized "SpannedCells$Grid") ∈ zT := z_mem 30 (by decide +kernel) (by decide +kernel)
theorem wd_31 : (Cond.initialized "java/util/AbstractCollection") ∈ zT := z_mem 31 (by decide +kernel) (by decide +kernel)
theorem wd_32 : (Cond.initialized "java/util/AbstractList") ∈ zT := z_mem 32 (by decide +kernel) (by decide +kernel)
theorem wd_33 : (Cond.initialized "java/util/ArrayList") ∈ zT := z_mem 33 (by decide +kernel) (by decide +kernel)
theorem wd_34 : (Cond.initialized "SpannedCells$Widths") ∈ zT := z_mem 34 (by decide +kernel) (by decide +kernel)
theorem wd_35 : (Cond.initialized "SpannedCells$Lines") ∈ zT := z_mem 35 (by decide +kernel) (by decide +kernel)
theorem wd_36 : (Cond.initialized "SpannedCells$Heights") ∈ zT := z_mem 36 (by decide +kernel) (by decide +kernel)
theorem wd_37 : (Cond.initialized "SpannedCellsModel") ∈ zT := z_mem 37 (by decide +kernel) (by decide +kernel)
theorem wd_38 : (Cond.initialized "java/lang/Math") ∈ zT := z_mem 38 (by decide +kernel) (by decide +kernel)
theorem wd_39 : (Cond.initialized "java/util/Objects") ∈ zT := z_mem 39 (by decide +kernel) (by decide +kernel)
theorem wd_40 : (Cond.initialized "jdk/internal/util/Preconditions") ∈ zT := z_mem 40 (by decide +kernel) (by decide +kernel)
theorem wd_41 : (Cond.initialized "SpannedCells$Cell") ∈ zT := z_mem 41 (by decide +kernel) (by decide +kernel)
theorem wd_42 : (Cond.initialized "jdk/internal/util/ArraysSupport") ∈ zT := z_mem 42 (by decide +kernel) (by decide +kernel)
theorem wd_43 : (Cond.initialized "java/util/Arrays") ∈ zT := z_mem 43 (by decide +kernel) (by decide +kernel)
theorem wd_44 : (Cond.initialized "java/lang/System") ∈ zT := z_mem 44 (by decide +kernel) (by decide +kernel)
theorem wd_46 : (Cond.instantiable "SpannedCells" (6 : Nat)) ∈ zT := z_mem 46 (by decide +kernel) (by decide +kernel)
theorem wd_48 : (Cond.instanceMethod ySC_init) ∈ zT := z_mem 48 (by decide +kernel) (by decide +kernel)
theorem wd_49 : (Cond.code ySC_init prog_1_method_1_code (1 : Nat) (Option.none : Option Jvm.ClassFile.FieldType)) ∈ zT := z_mem 49 (by decide +kernel) (by decide +kernel)
theorem wd_50 : (Cond.methodLink "SpannedCells" (1 : Nat) objectInit) ∈ zT := z_mem 50 (by decide +kernel) (by decide +kernel)
theorem wd_51 : (Cond.instanceMethod objectInit) ∈ zT := z_mem 51 (by decide +kernel) (by decide +kernel)
theorem wd_52 : (Cond.code objectInit object_method_1_code (1 : Nat) (Option.none : Option Jvm.ClassFile.FieldType)) ∈ zT := z_mem 52 (by decide +kernel) (by decide +kernel)
theorem wd_53 : (Cond.classLink "SpannedCells" (7 : Nat) "SpannedCells$Grid") ∈ zT := z_mem 53 (by decide +kernel) (by decide +kernel)
theorem wd_54 : (Cond.instantiable "SpannedCells$Grid" (6 : Nat)) ∈ zT := z_mem 54 (by decide +kernel) (by decide +kernel)
theorem wd_56 : (Cond.instanceMethod yGR_init) ∈ zT := z_mem 56 (by decide +kernel) (by decide +kernel)
theorem wd_57 : (Cond.code yGR_init prog_3_method_1_code (1 : Nat) (Option.none : Option Jvm.ClassFile.FieldType)) ∈ zT := z_mem 57 (by decide +kernel) (by decide +kernel)
theorem wd_58 : (Cond.methodLink "SpannedCells$Grid" (3 : Nat) objectInit) ∈ zT := z_mem 58 (by decide +kernel) (by decide +kernel)
theorem wd_59 : (Cond.classLink "SpannedCells$Grid" (9 : Nat) "java/util/ArrayList") ∈ zT := z_mem 59 (by decide +kernel) (by decide +kernel)
theorem wd_60 : (Cond.instantiable "java/util/ArrayList" (3 : Nat)) ∈ zT := z_mem 60 (by decide +kernel) (by decide +kernel)
theorem wd_61 : (Cond.methodLink "SpannedCells$Grid" (11 : Nat) yAL_init) ∈ zT := z_mem 61 (by decide +kernel) (by decide +kernel)
theorem wd_62 : (Cond.instanceMethod yAL_init) ∈ zT := z_mem 62 (by decide +kernel) (by decide +kernel)
theorem wd_63 : (Cond.code yAL_init prog_16_method_2_code (1 : Nat) (Option.none : Option Jvm.ClassFile.FieldType)) ∈ zT := z_mem 63 (by decide +kernel) (by decide +kernel)
theorem wd_64 : (Cond.methodLink "java/util/ArrayList" (1 : Nat) yAB_init) ∈ zT := z_mem 64 (by decide +kernel) (by decide +kernel)
theorem wd_65 : (Cond.instanceMethod yAB_init) ∈ zT := z_mem 65 (by decide +kernel) (by decide +kernel)
theorem wd_66 : (Cond.code yAB_init prog_15_method_1_code (1 : Nat) (Option.none : Option Jvm.ClassFile.FieldType)) ∈ zT := z_mem 66 (by decide +kernel) (by decide +kernel)
theorem wd_67 : (Cond.methodLink "java/util/AbstractList" (1 : Nat) yAC_init) ∈ zT := z_mem 67 (by decide +kernel) (by decide +kernel)
theorem wd_68 : (Cond.instanceMethod yAC_init) ∈ zT := z_mem 68 (by decide +kernel) (by decide +kernel)
theorem wd_69 : (Cond.code yAC_init prog_14_method_1_code (1 : Nat) (Option.none : Option Jvm.ClassFile.FieldType)) ∈ zT := z_mem 69 (by decide +kernel) (by decide +kernel)
theorem wd_70 : (Cond.methodLink "java/util/AbstractCollection" (1 : Nat) objectInit) ∈ zT := z_mem 70 (by decide +kernel) (by decide +kernel)
theorem wd_71 : (Cond.fieldLink "java/util/ArrayList" (39 : Nat) "java/util/ArrayList" "DEFAULTCAPACITY_EMPTY_ELEMENTDATA" "[Ljava/lang/Object;") ∈ zT := z_mem 71 (by decide +kernel) (by decide +kernel)
theorem wd_73 : (Cond.fieldLink "java/util/ArrayList" (9 : Nat) "java/util/ArrayList" "elementData" "[Ljava/lang/Object;") ∈ zT := z_mem 73 (by decide +kernel) (by decide +kernel)
theorem wd_74 : (Cond.fieldLink "java/util/ArrayList" (48 : Nat) "java/util/ArrayList" "size" "I") ∈ zT := z_mem 74 (by decide +kernel) (by decide +kernel)
theorem wd_75 : (Cond.fieldLink "java/util/AbstractList" (7 : Nat) "java/util/AbstractList" "modCount" "I") ∈ zT := z_mem 75 (by decide +kernel) (by decide +kernel)
theorem wd_76 : (Cond.fieldLink "java/util/ArrayList" (63 : Nat) "java/util/ArrayList" "modCount" "I") ∈ zT := z_mem 76 (by decide +kernel) (by decide +kernel)
theorem wd_77 : (Cond.sameField "java/util/ArrayList" "java/util/AbstractList" "modCount" "I") ∈ zT := z_mem 77 (by decide +kernel) (by decide +kernel)
theorem wd_78 : (Cond.lays "java/util/ArrayList" "java/util/ArrayList" "elementData" "[Ljava/lang/Object;") ∈ zT := z_mem 78 (by decide +kernel) (by decide +kernel)
theorem wd_80 : (Cond.lays "java/util/ArrayList" "java/util/ArrayList" "size" "I") ∈ zT := z_mem 80 (by decide +kernel) (by decide +kernel)
theorem wd_82 : (Cond.lays "java/util/ArrayList" "java/util/AbstractList" "modCount" "I") ∈ zT := z_mem 82 (by decide +kernel) (by decide +kernel)
theorem wd_85 : (Cond.fieldLink "SpannedCells$Grid" (12 : Nat) "SpannedCells$Grid" "cells" "Ljava/util/ArrayList;") ∈ zT := z_mem 85 (by decide +kernel) (by decide +kernel)
theorem wd_86 : (Cond.fieldLink "SpannedCells$Grid" (18 : Nat) "SpannedCells$Grid" "groups" "I") ∈ zT := z_mem 86 (by decide +kernel) (by decide +kernel)
theorem wd_87 : (Cond.fieldLink "SpannedCells$Grid" (22 : Nat) "SpannedCells$Grid" "groupStart" "I") ∈ zT := z_mem 87 (by decide +kernel) (by decide +kernel)
theorem wd_88 : (Cond.fieldLink "SpannedCells$Grid" (25 : Nat) "SpannedCells$Grid" "begunInGroup" "I") ∈ zT := z_mem 88 (by decide +kernel) (by decide +kernel)
theorem wd_89 : (Cond.fieldLink "SpannedCells$Grid" (28 : Nat) "SpannedCells$Grid" "rowsEnd" "I") ∈ zT := z_mem 89 (by decide +kernel) (by decide +kernel)
theorem wd_90 : (Cond.fieldLink "SpannedCells$Grid" (31 : Nat) "SpannedCells$Grid" "columnsEnd" "I") ∈ zT := z_mem 90 (by decide +kernel) (by decide +kernel)
theorem wd_91 : (Cond.laysFinal "SpannedCells$Grid" "SpannedCells$Grid" "cells" "Ljava/util/ArrayList;") ∈ zT := z_mem 91 (by decide +kernel) (by decide +kernel)
theorem wd_93 : (Cond.lays "SpannedCells$Grid" "SpannedCells$Grid" "groups" "I") ∈ zT := z_mem 93 (by decide +kernel) (by decide +kernel)
theorem wd_95 : (Cond.lays "SpannedCells$Grid" "SpannedCells$Grid" "groupStart" "I") ∈ zT := z_mem 95 (by decide +kernel) (by decide +kernel)
theorem wd_97 : (Cond.lays "SpannedCells$Grid" "SpannedCells$Grid" "begunInGroup" "I") ∈ zT := z_mem 97 (by decide +kernel) (by decide +kernel)
theorem wd_99 : (Cond.lays "SpannedCells$Grid" "SpannedCells$Grid" "rowsEnd" "I") ∈ zT := z_mem 99 (by decide +kernel) (by decide +kernel)
theorem wd_101 : (Cond.lays "SpannedCells$Grid" "SpannedCells$Grid" "columnsEnd" "I") ∈ zT := z_mem 101 (by decide +kernel) (by decide +kernel)
theorem wd_104 : (Cond.classLink "SpannedCells" (16 : Nat) "SpannedCells$Widths") ∈ zT := z_mem 104 (by decide +kernel) (by decide +kernel)
theorem wd_105 : (Cond.instantiable "SpannedCells$Widths" (4 : Nat)) ∈ zT := z_mem 105 (by decide +kernel) (by decide +kernel)
theorem wd_107 : (Cond.instanceMethod yWI_init) ∈ zT := z_mem 107 (by decide +kernel) (by decide +kernel)
theorem wd_108 : (Cond.code yWI_init prog_6_method_1_code (1 : Nat) (Option.none : Option Jvm.ClassFile.FieldType)) ∈ zT := z_mem 108 (by decide +kernel) (by decide +kernel)
theorem wd_109 : (Cond.methodLink "SpannedCells$Widths" (3 : Nat) objectInit) ∈ zT := z_mem 109 (by decide +kernel) (by decide +kernel)
theorem wd_110 : (Cond.classLink "SpannedCells$Widths" (9 : Nat) "SpannedCells$Lines") ∈ zT := z_mem 110 (by decide +kernel) (by decide +kernel)
theorem wd_111 : (Cond.instantiable "SpannedCells$Lines" (1 : Nat)) ∈ zT := z_mem 111 (by decide +kernel) (by decide +kernel)
theorem wd_113 : (Cond.instanceMethod yLI_init) ∈ zT := z_mem 113 (by decide +kernel) (by decide +kernel)
theorem wd_114 : (Cond.code yLI_init prog_5_method_1_code (1 : Nat) (Option.none : Option Jvm.ClassFile.FieldType)) ∈ zT := z_mem 114 (by decide +kernel) (by decide +kernel)
theorem wd_115 : (Cond.methodLink "SpannedCells$Lines" (3 : Nat) objectInit) ∈ zT := z_mem 115 (by decide +kernel) (by decide +kernel)
theorem wd_116 : (Cond.fieldLink "SpannedCells$Lines" (9 : Nat) "SpannedCells$Lines" "sizes" "[I") ∈ zT := z_mem 116 (by decide +kernel) (by decide +kernel)
theorem wd_117 : (Cond.laysFinal "SpannedCells$Lines" "SpannedCells$Lines" "sizes" "[I") ∈ zT := z_mem 117 (by decide +kernel) (by decide +kernel)
theorem wd_120 : (Cond.arrayClass Jvm.ClassFile.FieldType.int) ∈ zT := z_mem 120 (by decide +kernel) (by decide +kernel)
theorem wd_121 : (Cond.fieldLink "SpannedCells$Widths" (12 : Nat) "SpannedCells$Widths" "least" "LSpannedCells$Lines;") ∈ zT := z_mem 121 (by decide +kernel) (by decide +kernel)
theorem wd_122 : (Cond.fieldLink "SpannedCells" (112 : Nat) "SpannedCells$Widths" "least" "LSpannedCells$Lines;") ∈ zT := z_mem 122 (by decide +kernel) (by decide +kernel)
theorem wd_123 : (Cond.fieldLink "SpannedCells$Widths" (18 : Nat) "SpannedCells$Widths" "most" "LSpannedCells$Lines;") ∈ zT := z_mem 123 (by decide +kernel) (by decide +kernel)
theorem wd_124 : (Cond.fieldLink "SpannedCells" (122 : Nat) "SpannedCells$Widths" "most" "LSpannedCells$Lines;") ∈ zT := z_mem 124 (by decide +kernel) (by decide +kernel)
theorem wd_125 : (Cond.fieldLink "SpannedCells$Widths" (21 : Nat) "SpannedCells$Widths" "chosen" "LSpannedCells$Lines;") ∈ zT := z_mem 125 (by decide +kernel) (by decide +kernel)
theorem wd_126 : (Cond.fieldLink "SpannedCells" (168 : Nat) "SpannedCells$Widths" "chosen" "LSpannedCells$Lines;") ∈ zT := z_mem 126 (by decide +kernel) (by decide +kernel)
theorem wd_127 : (Cond.fieldLink "SpannedCells$Widths" (24 : Nat) "SpannedCells$Widths" "weights" "LSpannedCells$Lines;") ∈ zT := z_mem 127 (by decide +kernel) (by decide +kernel)
theorem wd_128 : (Cond.laysFinal "SpannedCells$Widths" "SpannedCells$Widths" "least" "LSpannedCells$Lines;") ∈ zT := z_mem 128 (by decide +kernel) (by decide +kernel)
theorem wd_130 : (Cond.laysFinal "SpannedCells$Widths" "SpannedCells$Widths" "most" "LSpannedCells$Lines;") ∈ zT := z_mem 130 (by decide +kernel) (by decide +kernel)
theorem wd_132 : (Cond.laysFinal "SpannedCells$Widths" "SpannedCells$Widths" "chosen" "LSpannedCells$Lines;") ∈ zT := z_mem 132 (by decide +kernel) (by decide +kernel)
theorem wd_134 : (Cond.laysFinal "SpannedCells$Widths" "SpannedCells$Widths" "weights" "LSpannedCells$Lines;") ∈ zT := z_mem 134 (by decide +kernel) (by decide +kernel)
theorem wd_137 : (Cond.classLink "SpannedCells" (23 : Nat) "SpannedCells$Heights") ∈ zT := z_mem 137 (by decide +kernel) (by decide +kernel)
theorem wd_138 : (Cond.instantiable "SpannedCells$Heights" (1 : Nat)) ∈ zT := z_mem 138 (by decide +kernel) (by decide +kernel)
theorem wd_140 : (Cond.instanceMethod yHE_init) ∈ zT := z_mem 140 (by decide +kernel) (by decide +kernel)
theorem wd_141 : (Cond.code yHE_init prog_4_method_1_code (1 : Nat) (Option.none : Option Jvm.ClassFile.FieldType)) ∈ zT := z_mem 141 (by decide +kernel) (by decide +kernel)
theorem wd_142 : (Cond.methodLink "SpannedCells$Heights" (3 : Nat) objectInit) ∈ zT := z_mem 142 (by decide +kernel) (by decide +kernel)
theorem wd_143 : (Cond.classLink "SpannedCells$Heights" (9 : Nat) "SpannedCells$Lines") ∈ zT := z_mem 143 (by decide +kernel) (by decide +kernel)
theorem wd_145 : (Cond.fieldLink "SpannedCells$Heights" (12 : Nat) "SpannedCells$Heights" "needed" "LSpannedCells$Lines;") ∈ zT := z_mem 145 (by decide +kernel) (by decide +kernel)
theorem wd_146 : (Cond.fieldLink "SpannedCells" (172 : Nat) "SpannedCells$Heights" "needed" "LSpannedCells$Lines;") ∈ zT := z_mem 146 (by decide +kernel) (by decide +kernel)
theorem wd_147 : (Cond.laysFinal "SpannedCells$Heights" "SpannedCells$Heights" "needed" "LSpannedCells$Lines;") ∈ zT := z_mem 147 (by decide +kernel) (by decide +kernel)
theorem wd_150 : (Cond.fieldLink "SpannedCells" (10 : Nat) "SpannedCells" "grid" "LSpannedCells$Grid;") ∈ zT := z_mem 150 (by decide +kernel) (by decide +kernel)
theorem wd_151 : (Cond.fieldLink "SpannedCells" (19 : Nat) "SpannedCells" "widths" "LSpannedCells$Widths;") ∈ zT := z_mem 151 (by decide +kernel) (by decide +kernel)
theorem wd_152 : (Cond.fieldLink "SpannedCells" (26 : Nat) "SpannedCells" "heights" "LSpannedCells$Heights;") ∈ zT := z_mem 152 (by decide +kernel) (by decide +kernel)
theorem wd_153 : (Cond.fieldLink "SpannedCells" (30 : Nat) "SpannedCells" "space" "I") ∈ zT := z_mem 153 (by decide +kernel) (by decide +kernel)
theorem wd_154 : (Cond.fieldLink "SpannedCells" (34 : Nat) "SpannedCells" "gap" "I") ∈ zT := z_mem 154 (by decide +kernel) (by decide +kernel)
theorem wd_155 : (Cond.fieldLink "SpannedCells" (37 : Nat) "SpannedCells" "fixed" "Z") ∈ zT := z_mem 155 (by decide +kernel) (by decide +kernel)
theorem wd_156 : (Cond.laysFinal "SpannedCells" "SpannedCells" "grid" "LSpannedCells$Grid;") ∈ zT := z_mem 156 (by decide +kernel) (by decide +kernel)
theorem wd_158 : (Cond.laysFinal "SpannedCells" "SpannedCells" "widths" "LSpannedCells$Widths;") ∈ zT := z_mem 158 (by decide +kernel) (by decide +kernel)
theorem wd_160 : (Cond.laysFinal "SpannedCells" "SpannedCells" "heights" "LSpannedCells$Heights;") ∈ zT := z_mem 160 (by decide +kernel) (by decide +kernel)
theorem wd_162 : (Cond.lays "SpannedCells" "SpannedCells" "space" "I") ∈ zT := z_mem 162 (by decide +kernel) (by decide +kernel)
theorem wd_164 : (Cond.lays "SpannedCells" "SpannedCells" "gap" "I") ∈ zT := z_mem 164 (by decide +kernel) (by decide +kernel)
theorem wd_166 : (Cond.lays "SpannedCells" "SpannedCells" "fixed" "Z") ∈ zT := z_mem 166 (by decide +kernel) (by decide +kernel)
theorem wd_170 : (Cond.instanceMethod ySC_group) ∈ zT := z_mem 170 (by decide +kernel) (by decide +kernel)
theorem wd_171 : (Cond.selects "SpannedCells" ySC_group ySC_group) ∈ zT := z_mem 171 (by decide +kernel) (by decide +kernel)
theorem wd_172 : (Cond.code ySC_group prog_1_method_2_code (1 : Nat) (Option.some Jvm.ClassFile.FieldType.int)) ∈ zT := z_mem 172 (by decide +kernel) (by decide +kernel)
theorem wd_173 : (Cond.methodLink "SpannedCells" (41 : Nat) yGR_beginGroup) ∈ zT := z_mem 173 (by decide +kernel) (by decide +kernel)
theorem wd_174 : (Cond.instanceMethod yGR_beginGroup) ∈ zT := z_mem 174 (by decide +kernel) (by decide +kernel)
theorem wd_175 : (Cond.selects "SpannedCells$Grid" yGR_beginGroup yGR_beginGroup) ∈ zT := z_mem 175 (by decide +kernel) (by decide +kernel)
theorem wd_176 : (Cond.code yGR_beginGroup prog_3_method_3_code (1 : Nat) (Option.some Jvm.ClassFile.FieldType.int)) ∈ zT := z_mem 176 (by decide +kernel) (by decide +kernel)
theorem wd_178 : (Cond.instanceMethod ySC_row) ∈ zT := z_mem 178 (by decide +kernel) (by decide +kernel)
theorem wd_179 : (Cond.selects "SpannedCells" ySC_row ySC_row) ∈ zT := z_mem 179 (by decide +kernel) (by decide +kernel)
theorem wd_180 : (Cond.code ySC_row prog_1_method_3_code (1 : Nat) (Option.some Jvm.ClassFile.FieldType.int)) ∈ zT := z_mem 180 (by decide +kernel) (by decide +kernel)
theorem wd_181 : (Cond.methodLink "SpannedCells" (45 : Nat) yGR_beginRow) ∈ zT := z_mem 181 (by decide +kernel) (by decide +kernel)
theorem wd_182 : (Cond.instanceMethod yGR_beginRow) ∈ zT := z_mem 182 (by decide +kernel) (by decide +kernel)
theorem wd_183 : (Cond.selects "SpannedCells$Grid" yGR_beginRow yGR_beginRow) ∈ zT := z_mem 183 (by decide +kernel) (by decide +kernel)
theorem wd_184 : (Cond.code yGR_beginRow prog_3_method_4_code (2 : Nat) (Option.some Jvm.ClassFile.FieldType.int)) ∈ zT := z_mem 184 (by decide +kernel) (by decide +kernel)
theorem wd_185 : (Cond.methodLink "SpannedCells$Grid" (37 : Nat) yGR_extendGroupTo) ∈ zT := z_mem 185 (by decide +kernel) (by decide +kernel)
theorem wd_187 : (Cond.instanceMethod yGR_extendGroupTo) ∈ zT := z_mem 187 (by decide +kernel) (by decide +kernel)
theorem wd_188 : (Cond.code yGR_extendGroupTo prog_3_method_7_code (4 : Nat) (Option.none : Option Jvm.ClassFile.FieldType)) ∈ zT := z_mem 188 (by decide +kernel) (by decide +kernel)
theorem wd_189 : (Cond.methodLink "SpannedCells$Grid" (58 : Nat) Lib.Math.max.name) ∈ zT := z_mem 189 (by decide +kernel) (by decide +kernel)
theorem wd_190 : (Cond.static Lib.Math.max.name) ∈ zT := z_mem 190 (by decide +kernel) (by decide +kernel)
theorem wd_191 : (Cond.code Lib.Math.max.name prog_12_method_65_code (2 : Nat) (Option.some Jvm.ClassFile.FieldType.int)) ∈ zT := z_mem 191 (by decide +kernel) (by decide +kernel)
theorem wd_192 : (Cond.methodLink "SpannedCells$Grid" (41 : Nat) yAL_size) ∈ zT := z_mem 192 (by decide +kernel) (by decide +kernel)
theorem wd_193 : (Cond.instanceMethod yAL_size) ∈ zT := z_mem 193 (by decide +kernel) (by decide +kernel)
theorem wd_194 : (Cond.selects "java/util/ArrayList" yAL_size yAL_size) ∈ zT := z_mem 194 (by decide +kernel) (by decide +kernel)
theorem wd_195 : (Cond.code yAL_size prog_16_method_8_code (1 : Nat) (Option.some Jvm.ClassFile.FieldType.int)) ∈ zT := z_mem 195 (by decide +kernel) (by decide +kernel)
theorem wd_196 : (Cond.methodLink "SpannedCells$Grid" (67 : Nat) yAL_get) ∈ zT := z_mem 196 (by decide +kernel) (by decide +kernel)
theorem wd_197 : (Cond.instanceMethod yAL_get) ∈ zT := z_mem 197 (by decide +kernel) (by decide +kernel)
theorem wd_198 : (Cond.selects "java/util/ArrayList" yAL_get yAL_get) ∈ zT := z_mem 198 (by decide +kernel) (by decide +kernel)
theorem wd_199 : (Cond.code yAL_get prog_16_method_20_code (2 : Nat) (Option.some (Jvm.ClassFile.FieldType.object "java/lang/Object"))) ∈ zT := z_mem 199 (by decide +kernel) (by decide +kernel)
theorem wd_200 : (Cond.methodLink "java/util/ArrayList" (118 : Nat) yOS_checkIndex) ∈ zT := z_mem 200 (by decide +kernel) (by decide +kernel)
theorem wd_201 : (Cond.static yOS_checkIndex) ∈ zT := z_mem 201 (by decide +kernel) (by decide +kernel)
theorem wd_202 : (Cond.code yOS_checkIndex prog_20_method_17_code (2 : Nat) (Option.some Jvm.ClassFile.FieldType.int)) ∈ zT := z_mem 202 (by decide +kernel) (by decide +kernel)
theorem wd_203 : (Cond.methodLink "java/util/Objects" (105 : Nat) yPR_checkIndex) ∈ zT := z_mem 203 (by decide +kernel) (by decide +kernel)
theorem wd_204 : (Cond.static yPR_checkIndex) ∈ zT := z_mem 204 (by decide +kernel) (by decide +kernel)
theorem wd_205 : (Cond.code yPR_checkIndex prog_24_method_11_code (3 : Nat) (Option.some Jvm.ClassFile.FieldType.int)) ∈ zT := z_mem 205 (by decide +kernel) (by decide +kernel)
theorem wd_206 : (Cond.methodLink "java/util/ArrayList" (123 : Nat) yAL_elementData) ∈ zT := z_mem 206 (by decide +kernel) (by decide +kernel)
theorem wd_207 : (Cond.instanceMethod yAL_elementData) ∈ zT := z_mem 207 (by decide +kernel) (by decide +kernel)
theorem wd_208 : (Cond.selects "java/util/ArrayList" yAL_elementData yAL_elementData) ∈ zT := z_mem 208 (by decide +kernel) (by decide +kernel)
end
section
theorem wd_209 : (Cond.code yAL_elementData prog_16_method_18_code (2 : Nat) (Option.some (Jvm.ClassFile.FieldType.object "java/lang/Object"))) ∈ zT := z_mem 209 (by decide +kernel) (by decide +kernel)
theorem wd_210 : (Cond.classLink "SpannedCells$Grid" (49 : Nat) "SpannedCells$Cell") ∈ zT := z_mem 210 (by decide +kernel) (by decide +kernel)
theorem wd_211 : (Cond.methodLink "SpannedCells$Grid" (74 : Nat) yCE_growTo) ∈ zT := z_mem 211 (by decide +kernel) (by decide +kernel)
theorem wd_212 : (Cond.instanceMethod yCE_growTo) ∈ zT := z_mem 212 (by decide +kernel) (by decide +kernel)
theorem wd_213 : (Cond.selects "SpannedCells$Cell" yCE_growTo yCE_growTo) ∈ zT := z_mem 213 (by decide +kernel) (by decide +kernel)
theorem wd_214 : (Cond.code yCE_growTo prog_2_method_5_code (2 : Nat) (Option.none : Option Jvm.ClassFile.FieldType)) ∈ zT := z_mem 214 (by decide +kernel) (by decide +kernel)
theorem wd_216 : (Cond.instanceMethod ySC_cell) ∈ zT := z_mem 216 (by decide +kernel) (by decide +kernel)
theorem wd_217 : (Cond.selects "SpannedCells" ySC_cell ySC_cell) ∈ zT := z_mem 217 (by decide +kernel) (by decide +kernel)
theorem wd_218 : (Cond.code ySC_cell prog_1_method_4_code (9 : Nat) (Option.some Jvm.ClassFile.FieldType.int)) ∈ zT := z_mem 218 (by decide +kernel) (by decide +kernel)
theorem wd_219 : (Cond.methodLink "SpannedCells" (48 : Nat) ySC_within) ∈ zT := z_mem 219 (by decide +kernel) (by decide +kernel)
theorem wd_220 : (Cond.static ySC_within) ∈ zT := z_mem 220 (by decide +kernel) (by decide +kernel)
theorem wd_221 : (Cond.code ySC_within prog_1_method_22_code (3 : Nat) (Option.some Jvm.ClassFile.FieldType.boolean)) ∈ zT := z_mem 221 (by decide +kernel) (by decide +kernel)
theorem wd_222 : (Cond.methodLink "SpannedCells" (52 : Nat) yGR_putCell) ∈ zT := z_mem 222 (by decide +kernel) (by decide +kernel)
theorem wd_223 : (Cond.instanceMethod yGR_putCell) ∈ zT := z_mem 223 (by decide +kernel) (by decide +kernel)
theorem wd_224 : (Cond.selects "SpannedCells$Grid" yGR_putCell yGR_putCell) ∈ zT := z_mem 224 (by decide +kernel) (by decide +kernel)
theorem wd_225 : (Cond.code yGR_putCell prog_3_method_5_code (8 : Nat) (Option.some Jvm.ClassFile.FieldType.int)) ∈ zT := z_mem 225 (by decide +kernel) (by decide +kernel)
theorem wd_226 : (Cond.methodLink "SpannedCells$Grid" (45 : Nat) yGR_firstFreeColumn) ∈ zT := z_mem 226 (by decide +kernel) (by decide +kernel)
theorem wd_228 : (Cond.instanceMethod yGR_firstFreeColumn) ∈ zT := z_mem 228 (by decide +kernel) (by decide +kernel)
theorem wd_229 : (Cond.code yGR_firstFreeColumn prog_3_method_6_code (3 : Nat) (Option.some Jvm.ClassFile.FieldType.int)) ∈ zT := z_mem 229 (by decide +kernel) (by decide +kernel)
theorem wd_230 : (Cond.methodLink "SpannedCells$Grid" (64 : Nat) yGR_ownerOf) ∈ zT := z_mem 230 (by decide +kernel) (by decide +kernel)
theorem wd_231 : (Cond.instanceMethod yGR_ownerOf) ∈ zT := z_mem 231 (by decide +kernel) (by decide +kernel)
theorem wd_232 : (Cond.selects "SpannedCells$Grid" yGR_ownerOf yGR_ownerOf) ∈ zT := z_mem 232 (by decide +kernel) (by decide +kernel)
theorem wd_233 : (Cond.code yGR_ownerOf prog_3_method_14_code (4 : Nat) (Option.some Jvm.ClassFile.FieldType.int)) ∈ zT := z_mem 233 (by decide +kernel) (by decide +kernel)
theorem wd_234 : (Cond.methodLink "SpannedCells$Grid" (81 : Nat) yCE_takes) ∈ zT := z_mem 234 (by decide +kernel) (by decide +kernel)
theorem wd_235 : (Cond.instanceMethod yCE_takes) ∈ zT := z_mem 235 (by decide +kernel) (by decide +kernel)
theorem wd_236 : (Cond.selects "SpannedCells$Cell" yCE_takes yCE_takes) ∈ zT := z_mem 236 (by decide +kernel) (by decide +kernel)
theorem wd_237 : (Cond.code yCE_takes prog_2_method_4_code (3 : Nat) (Option.some Jvm.ClassFile.FieldType.boolean)) ∈ zT := z_mem 237 (by decide +kernel) (by decide +kernel)
theorem wd_238 : (Cond.methodLink "SpannedCells$Cell" (43 : Nat) yCE_right) ∈ zT := z_mem 238 (by decide +kernel) (by decide +kernel)
theorem wd_239 : (Cond.instanceMethod yCE_right) ∈ zT := z_mem 239 (by decide +kernel) (by decide +kernel)
theorem wd_240 : (Cond.selects "SpannedCells$Cell" yCE_right yCE_right) ∈ zT := z_mem 240 (by decide +kernel) (by decide +kernel)
theorem wd_241 : (Cond.code yCE_right prog_2_method_2_code (1 : Nat) (Option.some Jvm.ClassFile.FieldType.int)) ∈ zT := z_mem 241 (by decide +kernel) (by decide +kernel)
theorem wd_242 : (Cond.methodLink "SpannedCells$Cell" (47 : Nat) yCE_bottom) ∈ zT := z_mem 242 (by decide +kernel) (by decide +kernel)
theorem wd_243 : (Cond.instanceMethod yCE_bottom) ∈ zT := z_mem 243 (by decide +kernel) (by decide +kernel)
theorem wd_244 : (Cond.selects "SpannedCells$Cell" yCE_bottom yCE_bottom) ∈ zT := z_mem 244 (by decide +kernel) (by decide +kernel)
theorem wd_245 : (Cond.code yCE_bottom prog_2_method_3_code (1 : Nat) (Option.some Jvm.ClassFile.FieldType.int)) ∈ zT := z_mem 245 (by decide +kernel) (by decide +kernel)
theorem wd_246 : (Cond.instantiable "SpannedCells$Cell" (10 : Nat)) ∈ zT := z_mem 246 (by decide +kernel) (by decide +kernel)
theorem wd_247 : (Cond.methodLink "SpannedCells$Grid" (51 : Nat) yCE_init) ∈ zT := z_mem 247 (by decide +kernel) (by decide +kernel)
theorem wd_248 : (Cond.instanceMethod yCE_init) ∈ zT := z_mem 248 (by decide +kernel) (by decide +kernel)
theorem wd_249 : (Cond.code yCE_init prog_2_method_1_code (8 : Nat) (Option.none : Option Jvm.ClassFile.FieldType)) ∈ zT := z_mem 249 (by decide +kernel) (by decide +kernel)
theorem wd_250 : (Cond.methodLink "SpannedCells$Cell" (3 : Nat) objectInit) ∈ zT := z_mem 250 (by decide +kernel) (by decide +kernel)
theorem wd_251 : (Cond.fieldLink "SpannedCells$Cell" (18 : Nat) "SpannedCells$Cell" "left" "I") ∈ zT := z_mem 251 (by decide +kernel) (by decide +kernel)
theorem wd_252 : (Cond.fieldLink "SpannedCells$Widths" (52 : Nat) "SpannedCells$Cell" "left" "I") ∈ zT := z_mem 252 (by decide +kernel) (by decide +kernel)
theorem wd_253 : (Cond.fieldLink "SpannedCells" (95 : Nat) "SpannedCells$Cell" "left" "I") ∈ zT := z_mem 253 (by decide +kernel) (by decide +kernel)
theorem wd_254 : (Cond.fieldLink "SpannedCells$Grid" (101 : Nat) "SpannedCells$Cell" "left" "I") ∈ zT := z_mem 254 (by decide +kernel) (by decide +kernel)
theorem wd_255 : (Cond.fieldLink "SpannedCells$Cell" (21 : Nat) "SpannedCells$Cell" "top" "I") ∈ zT := z_mem 255 (by decide +kernel) (by decide +kernel)
theorem wd_256 : (Cond.fieldLink "SpannedCells$Heights" (40 : Nat) "SpannedCells$Cell" "top" "I") ∈ zT := z_mem 256 (by decide +kernel) (by decide +kernel)
theorem wd_257 : (Cond.fieldLink "SpannedCells$Widths" (92 : Nat) "SpannedCells$Cell" "top" "I") ∈ zT := z_mem 257 (by decide +kernel) (by decide +kernel)
theorem wd_258 : (Cond.fieldLink "SpannedCells$Grid" (71 : Nat) "SpannedCells$Cell" "top" "I") ∈ zT := z_mem 258 (by decide +kernel) (by decide +kernel)
theorem wd_259 : (Cond.fieldLink "SpannedCells" (98 : Nat) "SpannedCells$Cell" "top" "I") ∈ zT := z_mem 259 (by decide +kernel) (by decide +kernel)
theorem wd_260 : (Cond.fieldLink "SpannedCells$Cell" (24 : Nat) "SpannedCells$Cell" "columns" "I") ∈ zT := z_mem 260 (by decide +kernel) (by decide +kernel)
theorem wd_261 : (Cond.fieldLink "SpannedCells$Widths" (40 : Nat) "SpannedCells$Cell" "columns" "I") ∈ zT := z_mem 261 (by decide +kernel) (by decide +kernel)
theorem wd_262 : (Cond.fieldLink "SpannedCells" (101 : Nat) "SpannedCells$Cell" "columns" "I") ∈ zT := z_mem 262 (by decide +kernel) (by decide +kernel)
theorem wd_263 : (Cond.fieldLink "SpannedCells$Grid" (85 : Nat) "SpannedCells$Cell" "columns" "I") ∈ zT := z_mem 263 (by decide +kernel) (by decide +kernel)
theorem wd_264 : (Cond.fieldLink "SpannedCells$Cell" (30 : Nat) "SpannedCells$Cell" "least" "I") ∈ zT := z_mem 264 (by decide +kernel) (by decide +kernel)
theorem wd_265 : (Cond.fieldLink "SpannedCells$Widths" (50 : Nat) "SpannedCells$Cell" "least" "I") ∈ zT := z_mem 265 (by decide +kernel) (by decide +kernel)
theorem wd_266 : (Cond.fieldLink "SpannedCells$Cell" (33 : Nat) "SpannedCells$Cell" "most" "I") ∈ zT := z_mem 266 (by decide +kernel) (by decide +kernel)
theorem wd_267 : (Cond.fieldLink "SpannedCells$Widths" (62 : Nat) "SpannedCells$Cell" "most" "I") ∈ zT := z_mem 267 (by decide +kernel) (by decide +kernel)
theorem wd_268 : (Cond.fieldLink "SpannedCells$Cell" (36 : Nat) "SpannedCells$Cell" "need" "I") ∈ zT := z_mem 268 (by decide +kernel) (by decide +kernel)
theorem wd_269 : (Cond.fieldLink "SpannedCells$Heights" (37 : Nat) "SpannedCells$Cell" "need" "I") ∈ zT := z_mem 269 (by decide +kernel) (by decide +kernel)
theorem wd_270 : (Cond.fieldLink "SpannedCells$Cell" (39 : Nat) "SpannedCells$Cell" "growing" "Z") ∈ zT := z_mem 270 (by decide +kernel) (by decide +kernel)
theorem wd_271 : (Cond.fieldLink "SpannedCells$Cell" (27 : Nat) "SpannedCells$Cell" "rows" "I") ∈ zT := z_mem 271 (by decide +kernel) (by decide +kernel)
theorem wd_272 : (Cond.fieldLink "SpannedCells$Heights" (31 : Nat) "SpannedCells$Cell" "rows" "I") ∈ zT := z_mem 272 (by decide +kernel) (by decide +kernel)
theorem wd_273 : (Cond.fieldLink "SpannedCells" (105 : Nat) "SpannedCells$Cell" "rows" "I") ∈ zT := z_mem 273 (by decide +kernel) (by decide +kernel)
theorem wd_274 : (Cond.fieldLink "SpannedCells$Grid" (88 : Nat) "SpannedCells$Cell" "rows" "I") ∈ zT := z_mem 274 (by decide +kernel) (by decide +kernel)
theorem wd_275 : (Cond.fieldLink "SpannedCells$Cell" (9 : Nat) "SpannedCells$Cell" "thickness" "I") ∈ zT := z_mem 275 (by decide +kernel) (by decide +kernel)
theorem wd_276 : (Cond.fieldLink "SpannedCells$Cell" (15 : Nat) "SpannedCells$Cell" "rank" "I") ∈ zT := z_mem 276 (by decide +kernel) (by decide +kernel)
theorem wd_277 : (Cond.laysFinal "SpannedCells$Cell" "SpannedCells$Cell" "left" "I") ∈ zT := z_mem 277 (by decide +kernel) (by decide +kernel)
theorem wd_279 : (Cond.laysFinal "SpannedCells$Cell" "SpannedCells$Cell" "top" "I") ∈ zT := z_mem 279 (by decide +kernel) (by decide +kernel)
theorem wd_281 : (Cond.laysFinal "SpannedCells$Cell" "SpannedCells$Cell" "columns" "I") ∈ zT := z_mem 281 (by decide +kernel) (by decide +kernel)
theorem wd_283 : (Cond.laysFinal "SpannedCells$Cell" "SpannedCells$Cell" "least" "I") ∈ zT := z_mem 283 (by decide +kernel) (by decide +kernel)
theorem wd_285 : (Cond.laysFinal "SpannedCells$Cell" "SpannedCells$Cell" "most" "I") ∈ zT := z_mem 285 (by decide +kernel) (by decide +kernel)
theorem wd_287 : (Cond.laysFinal "SpannedCells$Cell" "SpannedCells$Cell" "need" "I") ∈ zT := z_mem 287 (by decide +kernel) (by decide +kernel)
theorem wd_289 : (Cond.laysFinal "SpannedCells$Cell" "SpannedCells$Cell" "growing" "Z") ∈ zT := z_mem 289 (by decide +kernel) (by decide +kernel)
theorem wd_291 : (Cond.lays "SpannedCells$Cell" "SpannedCells$Cell" "rows" "I") ∈ zT := z_mem 291 (by decide +kernel) (by decide +kernel)
theorem wd_293 : (Cond.lays "SpannedCells$Cell" "SpannedCells$Cell" "thickness" "I") ∈ zT := z_mem 293 (by decide +kernel) (by decide +kernel)
theorem wd_295 : (Cond.lays "SpannedCells$Cell" "SpannedCells$Cell" "rank" "I") ∈ zT := z_mem 295 (by decide +kernel) (by decide +kernel)
theorem wd_298 : (Cond.methodLink "SpannedCells$Grid" (54 : Nat) yAL_add) ∈ zT := z_mem 298 (by decide +kernel) (by decide +kernel)
theorem wd_299 : (Cond.instanceMethod yAL_add) ∈ zT := z_mem 299 (by decide +kernel) (by decide +kernel)
theorem wd_300 : (Cond.selects "java/util/ArrayList" yAL_add yAL_add) ∈ zT := z_mem 300 (by decide +kernel) (by decide +kernel)
theorem wd_301 : (Cond.code yAL_add prog_16_method_25_code (2 : Nat) (Option.some Jvm.ClassFile.FieldType.boolean)) ∈ zT := z_mem 301 (by decide +kernel) (by decide +kernel)
theorem wd_302 : (Cond.methodLink "java/util/ArrayList" (131 : Nat) yAL_add_41) ∈ zT := z_mem 302 (by decide +kernel) (by decide +kernel)
theorem wd_304 : (Cond.instanceMethod yAL_add_41) ∈ zT := z_mem 304 (by decide +kernel) (by decide +kernel)
theorem wd_305 : (Cond.code yAL_add_41 prog_16_method_24_code (4 : Nat) (Option.none : Option Jvm.ClassFile.FieldType)) ∈ zT := z_mem 305 (by decide +kernel) (by decide +kernel)
theorem wd_306 : (Cond.methodLink "java/util/ArrayList" (129 : Nat) yAL_grow) ∈ zT := z_mem 306 (by decide +kernel) (by decide +kernel)
theorem wd_308 : (Cond.instanceMethod yAL_grow) ∈ zT := z_mem 308 (by decide +kernel) (by decide +kernel)
theorem wd_309 : (Cond.code yAL_grow prog_16_method_7_code (1 : Nat) (Option.some (Jvm.ClassFile.FieldType.array (Jvm.ClassFile.FieldType.object "java/lang/Object")))) ∈ zT := z_mem 309 (by decide +kernel) (by decide +kernel)
theorem wd_310 : (Cond.methodLink "java/util/ArrayList" (69 : Nat) yAL_grow_22) ∈ zT := z_mem 310 (by decide +kernel) (by decide +kernel)
theorem wd_312 : (Cond.instanceMethod yAL_grow_22) ∈ zT := z_mem 312 (by decide +kernel) (by decide +kernel)
theorem wd_313 : (Cond.code yAL_grow_22 prog_16_method_6_code (4 : Nat) (Option.some (Jvm.ClassFile.FieldType.array (Jvm.ClassFile.FieldType.object "java/lang/Object")))) ∈ zT := z_mem 313 (by decide +kernel) (by decide +kernel)
theorem wd_314 : (Cond.methodLink "java/util/ArrayList" (73 : Nat) yAS_newLength) ∈ zT := z_mem 314 (by decide +kernel) (by decide +kernel)
theorem wd_315 : (Cond.static yAS_newLength) ∈ zT := z_mem 315 (by decide +kernel) (by decide +kernel)
theorem wd_316 : (Cond.code yAS_newLength prog_23_method_27_code (4 : Nat) (Option.some Jvm.ClassFile.FieldType.int)) ∈ zT := z_mem 316 (by decide +kernel) (by decide +kernel)
theorem wd_317 : (Cond.methodLink "jdk/internal/util/ArraysSupport" (194 : Nat) Lib.Math.max.name) ∈ zT := z_mem 317 (by decide +kernel) (by decide +kernel)
theorem wd_318 : (Cond.constant "jdk/internal/util/ArraysSupport" (200 : Nat) (2147483639 : Int32)) ∈ zT := z_mem 318 (by decide +kernel) (by decide +kernel)
theorem wd_319 : (Cond.methodLink "jdk/internal/util/ArraysSupport" (201 : Nat) yAS_hugeLength) ∈ zT := z_mem 319 (by decide +kernel) (by decide +kernel)
theorem wd_320 : (Cond.static yAS_hugeLength) ∈ zT := z_mem 320 (by decide +kernel) (by decide +kernel)
theorem wd_321 : (Cond.code yAS_hugeLength prog_23_method_28_code (3 : Nat) (Option.some Jvm.ClassFile.FieldType.int)) ∈ zT := z_mem 321 (by decide +kernel) (by decide +kernel)
theorem wd_322 : (Cond.methodLink "java/util/ArrayList" (66 : Nat) yAR_copyOf) ∈ zT := z_mem 322 (by decide +kernel) (by decide +kernel)
theorem wd_323 : (Cond.static yAR_copyOf) ∈ zT := z_mem 323 (by decide +kernel) (by decide +kernel)
theorem wd_324 : (Cond.code yAR_copyOf prog_17_method_119_code (2 : Nat) (Option.some (Jvm.ClassFile.FieldType.array (Jvm.ClassFile.FieldType.object "java/lang/Object")))) ∈ zT := z_mem 324 (by decide +kernel) (by decide +kernel)
theorem wd_325 : (Cond.methodLink "java/util/Arrays" (86 : Nat) ⟨"java/lang/Object", "getClass", "()Ljava/lang/Class;"⟩) ∈ zT := z_mem 325 (by decide +kernel) (by decide +kernel)
theorem wd_326 : (Cond.instanceMethod ⟨"java/lang/Object", "getClass", "()Ljava/lang/Class;"⟩) ∈ zT := z_mem 326 (by decide +kernel) (by decide +kernel)
theorem wd_328 : (Cond.selects "SpannedCells" ⟨"java/lang/Object", "getClass", "()Ljava/lang/Class;"⟩ ⟨"java/lang/Object", "getClass", "()Ljava/lang/Class;"⟩) ∈ zT := z_mem 328 (by decide +kernel) (by decide +kernel)
theorem wd_329 : (Cond.selects "SpannedCells$Cell" ⟨"java/lang/Object", "getClass", "()Ljava/lang/Class;"⟩ ⟨"java/lang/Object", "getClass", "()Ljava/lang/Class;"⟩) ∈ zT := z_mem 329 (by decide +kernel) (by decide +kernel)
theorem wd_330 : (Cond.selects "SpannedCells$Grid" ⟨"java/lang/Object", "getClass", "()Ljava/lang/Class;"⟩ ⟨"java/lang/Object", "getClass", "()Ljava/lang/Class;"⟩) ∈ zT := z_mem 330 (by decide +kernel) (by decide +kernel)
theorem wd_331 : (Cond.selects "SpannedCells$Heights" ⟨"java/lang/Object", "getClass", "()Ljava/lang/Class;"⟩ ⟨"java/lang/Object", "getClass", "()Ljava/lang/Class;"⟩) ∈ zT := z_mem 331 (by decide +kernel) (by decide +kernel)
theorem wd_332 : (Cond.selects "SpannedCells$Lines" ⟨"java/lang/Object", "getClass", "()Ljava/lang/Class;"⟩ ⟨"java/lang/Object", "getClass", "()Ljava/lang/Class;"⟩) ∈ zT := z_mem 332 (by decide +kernel) (by decide +kernel)
theorem wd_333 : (Cond.selects "SpannedCells$Widths" ⟨"java/lang/Object", "getClass", "()Ljava/lang/Class;"⟩ ⟨"java/lang/Object", "getClass", "()Ljava/lang/Class;"⟩) ∈ zT := z_mem 333 (by decide +kernel) (by decide +kernel)
theorem wd_334 : (Cond.selects "SpannedCellsModel" ⟨"java/lang/Object", "getClass", "()Ljava/lang/Class;"⟩ ⟨"java/lang/Object", "getClass", "()Ljava/lang/Class;"⟩) ∈ zT := z_mem 334 (by decide +kernel) (by decide +kernel)
theorem wd_335 : (Cond.selects "java/util/ArrayList" ⟨"java/lang/Object", "getClass", "()Ljava/lang/Class;"⟩ ⟨"java/lang/Object", "getClass", "()Ljava/lang/Class;"⟩) ∈ zT := z_mem 335 (by decide +kernel) (by decide +kernel)
theorem wd_337 : (Cond.methodLink "java/util/Arrays" (300 : Nat) yAR_copyOf_58) ∈ zT := z_mem 337 (by decide +kernel) (by decide +kernel)
theorem wd_338 : (Cond.static yAR_copyOf_58) ∈ zT := z_mem 338 (by decide +kernel) (by decide +kernel)
theorem wd_339 : (Cond.code yAR_copyOf_58 prog_17_method_120_code (4 : Nat) (Option.some (Jvm.ClassFile.FieldType.array (Jvm.ClassFile.FieldType.object "java/lang/Object")))) ∈ zT := z_mem 339 (by decide +kernel) (by decide +kernel)
theorem wd_340 : (Cond.classLink "java/util/Arrays" (110 : Nat) "[Ljava/lang/Object;") ∈ zT := z_mem 340 (by decide +kernel) (by decide +kernel)
theorem wd_342 : (Cond.classLink "java/util/Arrays" (2 : Nat) "java/lang/Object") ∈ zT := z_mem 342 (by decide +kernel) (by decide +kernel)
theorem wd_343 : (Cond.methodLink "java/util/Arrays" (304 : Nat) yMA_min) ∈ zT := z_mem 343 (by decide +kernel) (by decide +kernel)
theorem wd_344 : (Cond.static yMA_min) ∈ zT := z_mem 344 (by decide +kernel) (by decide +kernel)
theorem wd_345 : (Cond.code yMA_min prog_12_method_69_code (2 : Nat) (Option.some Jvm.ClassFile.FieldType.int)) ∈ zT := z_mem 345 (by decide +kernel) (by decide +kernel)
theorem wd_346 : (Cond.methodLink "java/util/Arrays" (150 : Nat) ⟨"java/lang/System", "arraycopy", "(Ljava/lang/Object;ILjava/lang/Object;II)V"⟩) ∈ zT := z_mem 346 (by decide +kernel) (by decide +kernel)
theorem wd_347 : (Cond.static ⟨"java/lang/System", "arraycopy", "(Ljava/lang/Object;ILjava/lang/Object;II)V"⟩) ∈ zT := z_mem 347 (by decide +kernel) (by decide +kernel)
theorem wd_349 : (Cond.methodLink "java/util/ArrayList" (79 : Nat) Lib.Math.max.name) ∈ zT := z_mem 349 (by decide +kernel) (by decide +kernel)
theorem wd_350 : (Cond.classLink "java/util/ArrayList" (7 : Nat) "java/lang/Object") ∈ zT := z_mem 350 (by decide +kernel) (by decide +kernel)
theorem wd_352 : (Cond.instanceMethod ySC_border) ∈ zT := z_mem 352 (by decide +kernel) (by decide +kernel)
theorem wd_353 : (Cond.selects "SpannedCells" ySC_border ySC_border) ∈ zT := z_mem 353 (by decide +kernel) (by decide +kernel)
theorem wd_354 : (Cond.code ySC_border prog_1_method_5_code (4 : Nat) (Option.some Jvm.ClassFile.FieldType.boolean)) ∈ zT := z_mem 354 (by decide +kernel) (by decide +kernel)
theorem wd_355 : (Cond.methodLink "SpannedCells" (56 : Nat) yGR_hasCell) ∈ zT := z_mem 355 (by decide +kernel) (by decide +kernel)
theorem wd_356 : (Cond.instanceMethod yGR_hasCell) ∈ zT := z_mem 356 (by decide +kernel) (by decide +kernel)
theorem wd_357 : (Cond.selects "SpannedCells$Grid" yGR_hasCell yGR_hasCell) ∈ zT := z_mem 357 (by decide +kernel) (by decide +kernel)
theorem wd_358 : (Cond.code yGR_hasCell prog_3_method_11_code (2 : Nat) (Option.some Jvm.ClassFile.FieldType.boolean)) ∈ zT := z_mem 358 (by decide +kernel) (by decide +kernel)
theorem wd_359 : (Cond.methodLink "SpannedCells" (60 : Nat) yGR_cellAt) ∈ zT := z_mem 359 (by decide +kernel) (by decide +kernel)
theorem wd_360 : (Cond.instanceMethod yGR_cellAt) ∈ zT := z_mem 360 (by decide +kernel) (by decide +kernel)
theorem wd_361 : (Cond.selects "SpannedCells$Grid" yGR_cellAt yGR_cellAt) ∈ zT := z_mem 361 (by decide +kernel) (by decide +kernel)
theorem wd_362 : (Cond.code yGR_cellAt prog_3_method_12_code (2 : Nat) (Option.some (Jvm.ClassFile.FieldType.object "SpannedCells$Cell"))) ∈ zT := z_mem 362 (by decide +kernel) (by decide +kernel)
theorem wd_363 : (Cond.methodLink "SpannedCells" (64 : Nat) yCE_frame) ∈ zT := z_mem 363 (by decide +kernel) (by decide +kernel)
theorem wd_364 : (Cond.instanceMethod yCE_frame) ∈ zT := z_mem 364 (by decide +kernel) (by decide +kernel)
theorem wd_365 : (Cond.selects "SpannedCells$Cell" yCE_frame yCE_frame) ∈ zT := z_mem 365 (by decide +kernel) (by decide +kernel)
theorem wd_366 : (Cond.code yCE_frame prog_2_method_6_code (3 : Nat) (Option.none : Option Jvm.ClassFile.FieldType)) ∈ zT := z_mem 366 (by decide +kernel) (by decide +kernel)
theorem wd_368 : (Cond.instanceMethod ySC_layout) ∈ zT := z_mem 368 (by decide +kernel) (by decide +kernel)
theorem wd_369 : (Cond.selects "SpannedCells" ySC_layout ySC_layout) ∈ zT := z_mem 369 (by decide +kernel) (by decide +kernel)
theorem wd_370 : (Cond.code ySC_layout prog_1_method_6_code (4 : Nat) (Option.some Jvm.ClassFile.FieldType.boolean)) ∈ zT := z_mem 370 (by decide +kernel) (by decide +kernel)
theorem wd_372 : (Cond.instanceMethod ySC_clear) ∈ zT := z_mem 372 (by decide +kernel) (by decide +kernel)
theorem wd_373 : (Cond.selects "SpannedCells" ySC_clear ySC_clear) ∈ zT := z_mem 373 (by decide +kernel) (by decide +kernel)
theorem wd_374 : (Cond.code ySC_clear prog_1_method_7_code (2 : Nat) (Option.some Jvm.ClassFile.FieldType.int)) ∈ zT := z_mem 374 (by decide +kernel) (by decide +kernel)
theorem wd_375 : (Cond.methodLink "SpannedCells" (70 : Nat) yGR_cellCount) ∈ zT := z_mem 375 (by decide +kernel) (by decide +kernel)
theorem wd_376 : (Cond.instanceMethod yGR_cellCount) ∈ zT := z_mem 376 (by decide +kernel) (by decide +kernel)
theorem wd_377 : (Cond.selects "SpannedCells$Grid" yGR_cellCount yGR_cellCount) ∈ zT := z_mem 377 (by decide +kernel) (by decide +kernel)
theorem wd_378 : (Cond.code yGR_cellCount prog_3_method_8_code (1 : Nat) (Option.some Jvm.ClassFile.FieldType.int)) ∈ zT := z_mem 378 (by decide +kernel) (by decide +kernel)
theorem wd_379 : (Cond.methodLink "SpannedCells" (73 : Nat) yGR_empty) ∈ zT := z_mem 379 (by decide +kernel) (by decide +kernel)
theorem wd_380 : (Cond.instanceMethod yGR_empty) ∈ zT := z_mem 380 (by decide +kernel) (by decide +kernel)
theorem wd_381 : (Cond.selects "SpannedCells$Grid" yGR_empty yGR_empty) ∈ zT := z_mem 381 (by decide +kernel) (by decide +kernel)
theorem wd_382 : (Cond.code yGR_empty prog_3_method_2_code (1 : Nat) (Option.none : Option Jvm.ClassFile.FieldType)) ∈ zT := z_mem 382 (by decide +kernel) (by decide +kernel)
theorem wd_383 : (Cond.methodLink "SpannedCells$Grid" (34 : Nat) yAL_clear) ∈ zT := z_mem 383 (by decide +kernel) (by decide +kernel)
theorem wd_384 : (Cond.instanceMethod yAL_clear) ∈ zT := z_mem 384 (by decide +kernel) (by decide +kernel)
theorem wd_385 : (Cond.selects "java/util/ArrayList" yAL_clear yAL_clear) ∈ zT := z_mem 385 (by decide +kernel) (by decide +kernel)
theorem wd_386 : (Cond.code yAL_clear prog_16_method_40_code (4 : Nat) (Option.none : Option Jvm.ClassFile.FieldType)) ∈ zT := z_mem 386 (by decide +kernel) (by decide +kernel)
theorem wd_388 : (Cond.instanceMethod ySC_columns) ∈ zT := z_mem 388 (by decide +kernel) (by decide +kernel)
theorem wd_389 : (Cond.selects "SpannedCells" ySC_columns ySC_columns) ∈ zT := z_mem 389 (by decide +kernel) (by decide +kernel)
theorem wd_390 : (Cond.code ySC_columns prog_1_method_8_code (1 : Nat) (Option.some Jvm.ClassFile.FieldType.int)) ∈ zT := z_mem 390 (by decide +kernel) (by decide +kernel)
theorem wd_391 : (Cond.methodLink "SpannedCells" (76 : Nat) yGR_columnCount) ∈ zT := z_mem 391 (by decide +kernel) (by decide +kernel)
theorem wd_392 : (Cond.instanceMethod yGR_columnCount) ∈ zT := z_mem 392 (by decide +kernel) (by decide +kernel)
theorem wd_393 : (Cond.selects "SpannedCells$Grid" yGR_columnCount yGR_columnCount) ∈ zT := z_mem 393 (by decide +kernel) (by decide +kernel)
theorem wd_394 : (Cond.code yGR_columnCount prog_3_method_9_code (1 : Nat) (Option.some Jvm.ClassFile.FieldType.int)) ∈ zT := z_mem 394 (by decide +kernel) (by decide +kernel)
theorem wd_396 : (Cond.instanceMethod ySC_rows) ∈ zT := z_mem 396 (by decide +kernel) (by decide +kernel)
theorem wd_397 : (Cond.selects "SpannedCells" ySC_rows ySC_rows) ∈ zT := z_mem 397 (by decide +kernel) (by decide +kernel)
theorem wd_398 : (Cond.code ySC_rows prog_1_method_9_code (1 : Nat) (Option.some Jvm.ClassFile.FieldType.int)) ∈ zT := z_mem 398 (by decide +kernel) (by decide +kernel)
theorem wd_399 : (Cond.methodLink "SpannedCells" (79 : Nat) yGR_rowCount) ∈ zT := z_mem 399 (by decide +kernel) (by decide +kernel)
theorem wd_400 : (Cond.instanceMethod yGR_rowCount) ∈ zT := z_mem 400 (by decide +kernel) (by decide +kernel)
theorem wd_401 : (Cond.selects "SpannedCells$Grid" yGR_rowCount yGR_rowCount) ∈ zT := z_mem 401 (by decide +kernel) (by decide +kernel)
theorem wd_402 : (Cond.code yGR_rowCount prog_3_method_10_code (1 : Nat) (Option.some Jvm.ClassFile.FieldType.int)) ∈ zT := z_mem 402 (by decide +kernel) (by decide +kernel)
theorem wd_404 : (Cond.instanceMethod ySC_slot) ∈ zT := z_mem 404 (by decide +kernel) (by decide +kernel)
end
section
theorem wd_405 : (Cond.selects "SpannedCells" ySC_slot ySC_slot) ∈ zT := z_mem 405 (by decide +kernel) (by decide +kernel)
theorem wd_406 : (Cond.code ySC_slot prog_1_method_10_code (3 : Nat) (Option.some Jvm.ClassFile.FieldType.int)) ∈ zT := z_mem 406 (by decide +kernel) (by decide +kernel)
theorem wd_407 : (Cond.methodLink "SpannedCells" (82 : Nat) yGR_ownerOf) ∈ zT := z_mem 407 (by decide +kernel) (by decide +kernel)
theorem wd_409 : (Cond.instanceMethod ySC_overlaps) ∈ zT := z_mem 409 (by decide +kernel) (by decide +kernel)
theorem wd_410 : (Cond.selects "SpannedCells" ySC_overlaps ySC_overlaps) ∈ zT := z_mem 410 (by decide +kernel) (by decide +kernel)
theorem wd_411 : (Cond.code ySC_overlaps prog_1_method_11_code (1 : Nat) (Option.some Jvm.ClassFile.FieldType.int)) ∈ zT := z_mem 411 (by decide +kernel) (by decide +kernel)
theorem wd_412 : (Cond.methodLink "SpannedCells" (86 : Nat) yGR_countOverlaps) ∈ zT := z_mem 412 (by decide +kernel) (by decide +kernel)
theorem wd_413 : (Cond.instanceMethod yGR_countOverlaps) ∈ zT := z_mem 413 (by decide +kernel) (by decide +kernel)
theorem wd_414 : (Cond.selects "SpannedCells$Grid" yGR_countOverlaps yGR_countOverlaps) ∈ zT := z_mem 414 (by decide +kernel) (by decide +kernel)
theorem wd_415 : (Cond.code yGR_countOverlaps prog_3_method_15_code (3 : Nat) (Option.some Jvm.ClassFile.FieldType.int)) ∈ zT := z_mem 415 (by decide +kernel) (by decide +kernel)
theorem wd_416 : (Cond.methodLink "SpannedCells$Grid" (91 : Nat) yGR_countOwnedSlots) ∈ zT := z_mem 416 (by decide +kernel) (by decide +kernel)
theorem wd_418 : (Cond.instanceMethod yGR_countOwnedSlots) ∈ zT := z_mem 418 (by decide +kernel) (by decide +kernel)
theorem wd_419 : (Cond.code yGR_countOwnedSlots prog_3_method_16_code (4 : Nat) (Option.some Jvm.ClassFile.FieldType.int)) ∈ zT := z_mem 419 (by decide +kernel) (by decide +kernel)
theorem wd_421 : (Cond.instanceMethod ySC_empties) ∈ zT := z_mem 421 (by decide +kernel) (by decide +kernel)
theorem wd_422 : (Cond.selects "SpannedCells" ySC_empties ySC_empties) ∈ zT := z_mem 422 (by decide +kernel) (by decide +kernel)
theorem wd_423 : (Cond.code ySC_empties prog_1_method_12_code (1 : Nat) (Option.some Jvm.ClassFile.FieldType.int)) ∈ zT := z_mem 423 (by decide +kernel) (by decide +kernel)
theorem wd_424 : (Cond.methodLink "SpannedCells" (89 : Nat) yGR_countEmptyColumns) ∈ zT := z_mem 424 (by decide +kernel) (by decide +kernel)
theorem wd_425 : (Cond.instanceMethod yGR_countEmptyColumns) ∈ zT := z_mem 425 (by decide +kernel) (by decide +kernel)
theorem wd_426 : (Cond.selects "SpannedCells$Grid" yGR_countEmptyColumns yGR_countEmptyColumns) ∈ zT := z_mem 426 (by decide +kernel) (by decide +kernel)
theorem wd_427 : (Cond.code yGR_countEmptyColumns prog_3_method_17_code (3 : Nat) (Option.some Jvm.ClassFile.FieldType.int)) ∈ zT := z_mem 427 (by decide +kernel) (by decide +kernel)
theorem wd_428 : (Cond.methodLink "SpannedCells$Grid" (94 : Nat) yGR_beginsInColumn) ∈ zT := z_mem 428 (by decide +kernel) (by decide +kernel)
theorem wd_430 : (Cond.instanceMethod yGR_beginsInColumn) ∈ zT := z_mem 430 (by decide +kernel) (by decide +kernel)
theorem wd_431 : (Cond.code yGR_beginsInColumn prog_3_method_19_code (3 : Nat) (Option.some Jvm.ClassFile.FieldType.boolean)) ∈ zT := z_mem 431 (by decide +kernel) (by decide +kernel)
theorem wd_432 : (Cond.methodLink "SpannedCells" (92 : Nat) yGR_countEmptyRows) ∈ zT := z_mem 432 (by decide +kernel) (by decide +kernel)
theorem wd_433 : (Cond.instanceMethod yGR_countEmptyRows) ∈ zT := z_mem 433 (by decide +kernel) (by decide +kernel)
theorem wd_434 : (Cond.selects "SpannedCells$Grid" yGR_countEmptyRows yGR_countEmptyRows) ∈ zT := z_mem 434 (by decide +kernel) (by decide +kernel)
theorem wd_435 : (Cond.code yGR_countEmptyRows prog_3_method_18_code (3 : Nat) (Option.some Jvm.ClassFile.FieldType.int)) ∈ zT := z_mem 435 (by decide +kernel) (by decide +kernel)
theorem wd_436 : (Cond.methodLink "SpannedCells$Grid" (98 : Nat) yGR_beginsInRow) ∈ zT := z_mem 436 (by decide +kernel) (by decide +kernel)
theorem wd_438 : (Cond.instanceMethod yGR_beginsInRow) ∈ zT := z_mem 438 (by decide +kernel) (by decide +kernel)
theorem wd_439 : (Cond.code yGR_beginsInRow prog_3_method_20_code (3 : Nat) (Option.some Jvm.ClassFile.FieldType.boolean)) ∈ zT := z_mem 439 (by decide +kernel) (by decide +kernel)
theorem wd_441 : (Cond.instanceMethod ySC_span) ∈ zT := z_mem 441 (by decide +kernel) (by decide +kernel)
theorem wd_442 : (Cond.selects "SpannedCells" ySC_span ySC_span) ∈ zT := z_mem 442 (by decide +kernel) (by decide +kernel)
theorem wd_443 : (Cond.code ySC_span prog_1_method_13_code (3 : Nat) (Option.some Jvm.ClassFile.FieldType.int)) ∈ zT := z_mem 443 (by decide +kernel) (by decide +kernel)
theorem wd_444 : (Cond.constant "SpannedCells" (104 : Nat) (1000000 : Int32)) ∈ zT := z_mem 444 (by decide +kernel) (by decide +kernel)
theorem wd_446 : (Cond.instanceMethod ySC_wide) ∈ zT := z_mem 446 (by decide +kernel) (by decide +kernel)
theorem wd_447 : (Cond.selects "SpannedCells" ySC_wide ySC_wide) ∈ zT := z_mem 447 (by decide +kernel) (by decide +kernel)
theorem wd_448 : (Cond.code ySC_wide prog_1_method_14_code (3 : Nat) (Option.some Jvm.ClassFile.FieldType.int)) ∈ zT := z_mem 448 (by decide +kernel) (by decide +kernel)
theorem wd_449 : (Cond.methodLink "SpannedCells" (108 : Nat) ySC_measuredWidths) ∈ zT := z_mem 449 (by decide +kernel) (by decide +kernel)
theorem wd_451 : (Cond.instanceMethod ySC_measuredWidths) ∈ zT := z_mem 451 (by decide +kernel) (by decide +kernel)
theorem wd_452 : (Cond.code ySC_measuredWidths prog_1_method_19_code (1 : Nat) (Option.some (Jvm.ClassFile.FieldType.object "SpannedCells$Widths"))) ∈ zT := z_mem 452 (by decide +kernel) (by decide +kernel)
theorem wd_453 : (Cond.methodLink "SpannedCells" (152 : Nat) yWI_measure) ∈ zT := z_mem 453 (by decide +kernel) (by decide +kernel)
theorem wd_454 : (Cond.instanceMethod yWI_measure) ∈ zT := z_mem 454 (by decide +kernel) (by decide +kernel)
theorem wd_455 : (Cond.selects "SpannedCells$Widths" yWI_measure yWI_measure) ∈ zT := z_mem 455 (by decide +kernel) (by decide +kernel)
theorem wd_456 : (Cond.code yWI_measure prog_6_method_2_code (5 : Nat) (Option.none : Option Jvm.ClassFile.FieldType)) ∈ zT := z_mem 456 (by decide +kernel) (by decide +kernel)
theorem wd_457 : (Cond.methodLink "SpannedCells$Widths" (27 : Nat) yLI_reset) ∈ zT := z_mem 457 (by decide +kernel) (by decide +kernel)
theorem wd_458 : (Cond.instanceMethod yLI_reset) ∈ zT := z_mem 458 (by decide +kernel) (by decide +kernel)
theorem wd_459 : (Cond.selects "SpannedCells$Lines" yLI_reset yLI_reset) ∈ zT := z_mem 459 (by decide +kernel) (by decide +kernel)
theorem wd_460 : (Cond.code yLI_reset prog_5_method_2_code (1 : Nat) (Option.none : Option Jvm.ClassFile.FieldType)) ∈ zT := z_mem 460 (by decide +kernel) (by decide +kernel)
theorem wd_461 : (Cond.methodLink "SpannedCells$Lines" (15 : Nat) yAR_fill) ∈ zT := z_mem 461 (by decide +kernel) (by decide +kernel)
theorem wd_462 : (Cond.static yAR_fill) ∈ zT := z_mem 462 (by decide +kernel) (by decide +kernel)
theorem wd_463 : (Cond.code yAR_fill prog_17_method_103_code (4 : Nat) (Option.none : Option Jvm.ClassFile.FieldType)) ∈ zT := z_mem 463 (by decide +kernel) (by decide +kernel)
theorem wd_464 : (Cond.methodLink "SpannedCells$Widths" (30 : Nat) yGR_cellCount) ∈ zT := z_mem 464 (by decide +kernel) (by decide +kernel)
theorem wd_465 : (Cond.methodLink "SpannedCells$Widths" (36 : Nat) yGR_cellAt) ∈ zT := z_mem 465 (by decide +kernel) (by decide +kernel)
theorem wd_466 : (Cond.methodLink "SpannedCells$Widths" (46 : Nat) yWI_fit) ∈ zT := z_mem 466 (by decide +kernel) (by decide +kernel)
theorem wd_468 : (Cond.instanceMethod yWI_fit) ∈ zT := z_mem 468 (by decide +kernel) (by decide +kernel)
theorem wd_469 : (Cond.code yWI_fit prog_6_method_3_code (3 : Nat) (Option.none : Option Jvm.ClassFile.FieldType)) ∈ zT := z_mem 469 (by decide +kernel) (by decide +kernel)
theorem wd_470 : (Cond.methodLink "SpannedCells$Widths" (55 : Nat) yCE_right) ∈ zT := z_mem 470 (by decide +kernel) (by decide +kernel)
theorem wd_471 : (Cond.methodLink "SpannedCells$Widths" (58 : Nat) yLI_stretch) ∈ zT := z_mem 471 (by decide +kernel) (by decide +kernel)
theorem wd_472 : (Cond.instanceMethod yLI_stretch) ∈ zT := z_mem 472 (by decide +kernel) (by decide +kernel)
theorem wd_473 : (Cond.selects "SpannedCells$Lines" yLI_stretch yLI_stretch) ∈ zT := z_mem 473 (by decide +kernel) (by decide +kernel)
theorem wd_474 : (Cond.code yLI_stretch prog_5_method_10_code (7 : Nat) (Option.none : Option Jvm.ClassFile.FieldType)) ∈ zT := z_mem 474 (by decide +kernel) (by decide +kernel)
theorem wd_475 : (Cond.methodLink "SpannedCells$Lines" (36 : Nat) yLI_reach) ∈ zT := z_mem 475 (by decide +kernel) (by decide +kernel)
theorem wd_476 : (Cond.instanceMethod yLI_reach) ∈ zT := z_mem 476 (by decide +kernel) (by decide +kernel)
theorem wd_477 : (Cond.selects "SpannedCells$Lines" yLI_reach yLI_reach) ∈ zT := z_mem 477 (by decide +kernel) (by decide +kernel)
theorem wd_478 : (Cond.code yLI_reach prog_5_method_8_code (4 : Nat) (Option.some Jvm.ClassFile.FieldType.int)) ∈ zT := z_mem 478 (by decide +kernel) (by decide +kernel)
theorem wd_479 : (Cond.methodLink "SpannedCells$Lines" (33 : Nat) yLI_sum) ∈ zT := z_mem 479 (by decide +kernel) (by decide +kernel)
theorem wd_480 : (Cond.instanceMethod yLI_sum) ∈ zT := z_mem 480 (by decide +kernel) (by decide +kernel)
theorem wd_481 : (Cond.selects "SpannedCells$Lines" yLI_sum yLI_sum) ∈ zT := z_mem 481 (by decide +kernel) (by decide +kernel)
theorem wd_482 : (Cond.code yLI_sum prog_5_method_7_code (5 : Nat) (Option.some Jvm.ClassFile.FieldType.int)) ∈ zT := z_mem 482 (by decide +kernel) (by decide +kernel)
theorem wd_483 : (Cond.methodLink "SpannedCells$Lines" (40 : Nat) yLI_shareOut) ∈ zT := z_mem 483 (by decide +kernel) (by decide +kernel)
theorem wd_484 : (Cond.instanceMethod yLI_shareOut) ∈ zT := z_mem 484 (by decide +kernel) (by decide +kernel)
theorem wd_485 : (Cond.selects "SpannedCells$Lines" yLI_shareOut yLI_shareOut) ∈ zT := z_mem 485 (by decide +kernel) (by decide +kernel)
theorem wd_486 : (Cond.code yLI_shareOut prog_5_method_11_code (12 : Nat) (Option.none : Option Jvm.ClassFile.FieldType)) ∈ zT := z_mem 486 (by decide +kernel) (by decide +kernel)
theorem wd_487 : (Cond.methodLink "SpannedCells$Widths" (64 : Nat) yLI_raiseTo) ∈ zT := z_mem 487 (by decide +kernel) (by decide +kernel)
theorem wd_488 : (Cond.instanceMethod yLI_raiseTo) ∈ zT := z_mem 488 (by decide +kernel) (by decide +kernel)
theorem wd_489 : (Cond.selects "SpannedCells$Lines" yLI_raiseTo yLI_raiseTo) ∈ zT := z_mem 489 (by decide +kernel) (by decide +kernel)
theorem wd_490 : (Cond.code yLI_raiseTo prog_5_method_5_code (5 : Nat) (Option.none : Option Jvm.ClassFile.FieldType)) ∈ zT := z_mem 490 (by decide +kernel) (by decide +kernel)
theorem wd_491 : (Cond.methodLink "SpannedCells$Lines" (21 : Nat) Lib.Math.max.name) ∈ zT := z_mem 491 (by decide +kernel) (by decide +kernel)
theorem wd_492 : (Cond.methodLink "SpannedCells" (116 : Nat) yLI_sizeOf) ∈ zT := z_mem 492 (by decide +kernel) (by decide +kernel)
theorem wd_493 : (Cond.instanceMethod yLI_sizeOf) ∈ zT := z_mem 493 (by decide +kernel) (by decide +kernel)
theorem wd_494 : (Cond.selects "SpannedCells$Lines" yLI_sizeOf yLI_sizeOf) ∈ zT := z_mem 494 (by decide +kernel) (by decide +kernel)
theorem wd_495 : (Cond.code yLI_sizeOf prog_5_method_3_code (2 : Nat) (Option.some Jvm.ClassFile.FieldType.int)) ∈ zT := z_mem 495 (by decide +kernel) (by decide +kernel)
theorem wd_496 : (Cond.methodLink "SpannedCells" (125 : Nat) ySC_chosenWidths) ∈ zT := z_mem 496 (by decide +kernel) (by decide +kernel)
theorem wd_498 : (Cond.instanceMethod ySC_chosenWidths) ∈ zT := z_mem 498 (by decide +kernel) (by decide +kernel)
theorem wd_499 : (Cond.code ySC_chosenWidths prog_1_method_20_code (2 : Nat) (Option.some (Jvm.ClassFile.FieldType.object "SpannedCells$Lines"))) ∈ zT := z_mem 499 (by decide +kernel) (by decide +kernel)
theorem wd_500 : (Cond.methodLink "SpannedCells" (156 : Nat) Lib.Math.max.name) ∈ zT := z_mem 500 (by decide +kernel) (by decide +kernel)
theorem wd_501 : (Cond.methodLink "SpannedCells" (161 : Nat) yWI_chooseFixed) ∈ zT := z_mem 501 (by decide +kernel) (by decide +kernel)
theorem wd_502 : (Cond.instanceMethod yWI_chooseFixed) ∈ zT := z_mem 502 (by decide +kernel) (by decide +kernel)
theorem wd_503 : (Cond.selects "SpannedCells$Widths" yWI_chooseFixed yWI_chooseFixed) ∈ zT := z_mem 503 (by decide +kernel) (by decide +kernel)
theorem wd_504 : (Cond.code yWI_chooseFixed prog_6_method_6_code (8 : Nat) (Option.none : Option Jvm.ClassFile.FieldType)) ∈ zT := z_mem 504 (by decide +kernel) (by decide +kernel)
theorem wd_505 : (Cond.methodLink "SpannedCells$Widths" (95 : Nat) Lib.Math.max.name) ∈ zT := z_mem 505 (by decide +kernel) (by decide +kernel)
theorem wd_506 : (Cond.methodLink "SpannedCells$Widths" (80 : Nat) yLI_shareOut) ∈ zT := z_mem 506 (by decide +kernel) (by decide +kernel)
theorem wd_507 : (Cond.methodLink "SpannedCells$Widths" (68 : Nat) yLI_sum) ∈ zT := z_mem 507 (by decide +kernel) (by decide +kernel)
theorem wd_508 : (Cond.methodLink "SpannedCells$Widths" (100 : Nat) yGR_columnCount) ∈ zT := z_mem 508 (by decide +kernel) (by decide +kernel)
theorem wd_509 : (Cond.methodLink "SpannedCells" (165 : Nat) yWI_chooseByMeasures) ∈ zT := z_mem 509 (by decide +kernel) (by decide +kernel)
theorem wd_510 : (Cond.instanceMethod yWI_chooseByMeasures) ∈ zT := z_mem 510 (by decide +kernel) (by decide +kernel)
theorem wd_511 : (Cond.selects "SpannedCells$Widths" yWI_chooseByMeasures yWI_chooseByMeasures) ∈ zT := z_mem 511 (by decide +kernel) (by decide +kernel)
theorem wd_512 : (Cond.code yWI_chooseByMeasures prog_6_method_4_code (5 : Nat) (Option.none : Option Jvm.ClassFile.FieldType)) ∈ zT := z_mem 512 (by decide +kernel) (by decide +kernel)
theorem wd_513 : (Cond.methodLink "SpannedCells$Widths" (72 : Nat) yLI_copyOf) ∈ zT := z_mem 513 (by decide +kernel) (by decide +kernel)
theorem wd_514 : (Cond.instanceMethod yLI_copyOf) ∈ zT := z_mem 514 (by decide +kernel) (by decide +kernel)
theorem wd_515 : (Cond.selects "SpannedCells$Lines" yLI_copyOf yLI_copyOf) ∈ zT := z_mem 515 (by decide +kernel) (by decide +kernel)
theorem wd_516 : (Cond.code yLI_copyOf prog_5_method_6_code (2 : Nat) (Option.none : Option Jvm.ClassFile.FieldType)) ∈ zT := z_mem 516 (by decide +kernel) (by decide +kernel)
theorem wd_517 : (Cond.methodLink "SpannedCells$Lines" (27 : Nat) ⟨"java/lang/System", "arraycopy", "(Ljava/lang/Object;ILjava/lang/Object;II)V"⟩) ∈ zT := z_mem 517 (by decide +kernel) (by decide +kernel)
theorem wd_518 : (Cond.methodLink "SpannedCells$Widths" (76 : Nat) yWI_weighByScope) ∈ zT := z_mem 518 (by decide +kernel) (by decide +kernel)
theorem wd_520 : (Cond.instanceMethod yWI_weighByScope) ∈ zT := z_mem 520 (by decide +kernel) (by decide +kernel)
theorem wd_521 : (Cond.code yWI_weighByScope prog_6_method_5_code (3 : Nat) (Option.none : Option Jvm.ClassFile.FieldType)) ∈ zT := z_mem 521 (by decide +kernel) (by decide +kernel)
theorem wd_522 : (Cond.methodLink "SpannedCells$Widths" (84 : Nat) yLI_sizeOf) ∈ zT := z_mem 522 (by decide +kernel) (by decide +kernel)
theorem wd_523 : (Cond.methodLink "SpannedCells$Widths" (88 : Nat) yLI_set) ∈ zT := z_mem 523 (by decide +kernel) (by decide +kernel)
theorem wd_524 : (Cond.instanceMethod yLI_set) ∈ zT := z_mem 524 (by decide +kernel) (by decide +kernel)
theorem wd_525 : (Cond.selects "SpannedCells$Lines" yLI_set yLI_set) ∈ zT := z_mem 525 (by decide +kernel) (by decide +kernel)
theorem wd_526 : (Cond.code yLI_set prog_5_method_4_code (3 : Nat) (Option.none : Option Jvm.ClassFile.FieldType)) ∈ zT := z_mem 526 (by decide +kernel) (by decide +kernel)
theorem wd_528 : (Cond.instanceMethod ySC_high) ∈ zT := z_mem 528 (by decide +kernel) (by decide +kernel)
theorem wd_529 : (Cond.selects "SpannedCells" ySC_high ySC_high) ∈ zT := z_mem 529 (by decide +kernel) (by decide +kernel)
theorem wd_530 : (Cond.code ySC_high prog_1_method_15_code (2 : Nat) (Option.some Jvm.ClassFile.FieldType.int)) ∈ zT := z_mem 530 (by decide +kernel) (by decide +kernel)
theorem wd_531 : (Cond.methodLink "SpannedCells" (129 : Nat) ySC_measuredHeights) ∈ zT := z_mem 531 (by decide +kernel) (by decide +kernel)
theorem wd_533 : (Cond.instanceMethod ySC_measuredHeights) ∈ zT := z_mem 533 (by decide +kernel) (by decide +kernel)
theorem wd_534 : (Cond.code ySC_measuredHeights prog_1_method_21_code (1 : Nat) (Option.some (Jvm.ClassFile.FieldType.object "SpannedCells$Lines"))) ∈ zT := z_mem 534 (by decide +kernel) (by decide +kernel)
theorem wd_535 : (Cond.methodLink "SpannedCells" (171 : Nat) yHE_measure) ∈ zT := z_mem 535 (by decide +kernel) (by decide +kernel)
theorem wd_536 : (Cond.instanceMethod yHE_measure) ∈ zT := z_mem 536 (by decide +kernel) (by decide +kernel)
theorem wd_537 : (Cond.selects "SpannedCells$Heights" yHE_measure yHE_measure) ∈ zT := z_mem 537 (by decide +kernel) (by decide +kernel)
theorem wd_538 : (Cond.code yHE_measure prog_4_method_2_code (6 : Nat) (Option.none : Option Jvm.ClassFile.FieldType)) ∈ zT := z_mem 538 (by decide +kernel) (by decide +kernel)
theorem wd_539 : (Cond.methodLink "SpannedCells$Heights" (18 : Nat) yLI_reset) ∈ zT := z_mem 539 (by decide +kernel) (by decide +kernel)
theorem wd_540 : (Cond.methodLink "SpannedCells$Heights" (21 : Nat) yGR_cellCount) ∈ zT := z_mem 540 (by decide +kernel) (by decide +kernel)
theorem wd_541 : (Cond.methodLink "SpannedCells$Heights" (27 : Nat) yGR_cellAt) ∈ zT := z_mem 541 (by decide +kernel) (by decide +kernel)
theorem wd_542 : (Cond.methodLink "SpannedCells$Heights" (43 : Nat) yCE_bottom) ∈ zT := z_mem 542 (by decide +kernel) (by decide +kernel)
theorem wd_543 : (Cond.methodLink "SpannedCells$Heights" (46 : Nat) yLI_stretch) ∈ zT := z_mem 543 (by decide +kernel) (by decide +kernel)
theorem wd_545 : (Cond.instanceMethod ySC_place) ∈ zT := z_mem 545 (by decide +kernel) (by decide +kernel)
theorem wd_546 : (Cond.selects "SpannedCells" ySC_place ySC_place) ∈ zT := z_mem 546 (by decide +kernel) (by decide +kernel)
theorem wd_547 : (Cond.code ySC_place prog_1_method_16_code (4 : Nat) (Option.some Jvm.ClassFile.FieldType.int)) ∈ zT := z_mem 547 (by decide +kernel) (by decide +kernel)
theorem wd_548 : (Cond.methodLink "SpannedCells" (132 : Nat) yLI_startOf) ∈ zT := z_mem 548 (by decide +kernel) (by decide +kernel)
theorem wd_549 : (Cond.instanceMethod yLI_startOf) ∈ zT := z_mem 549 (by decide +kernel) (by decide +kernel)
theorem wd_550 : (Cond.selects "SpannedCells$Lines" yLI_startOf yLI_startOf) ∈ zT := z_mem 550 (by decide +kernel) (by decide +kernel)
theorem wd_551 : (Cond.code yLI_startOf prog_5_method_9_code (3 : Nat) (Option.some Jvm.ClassFile.FieldType.int)) ∈ zT := z_mem 551 (by decide +kernel) (by decide +kernel)
theorem wd_552 : (Cond.methodLink "SpannedCells" (135 : Nat) yCE_right) ∈ zT := z_mem 552 (by decide +kernel) (by decide +kernel)
theorem wd_553 : (Cond.methodLink "SpannedCells" (138 : Nat) yLI_reach) ∈ zT := z_mem 553 (by decide +kernel) (by decide +kernel)
theorem wd_554 : (Cond.methodLink "SpannedCells" (142 : Nat) yCE_bottom) ∈ zT := z_mem 554 (by decide +kernel) (by decide +kernel)
theorem wd_556 : (Cond.instanceMethod ySC_size) ∈ zT := z_mem 556 (by decide +kernel) (by decide +kernel)
theorem wd_557 : (Cond.selects "SpannedCells" ySC_size ySC_size) ∈ zT := z_mem 557 (by decide +kernel) (by decide +kernel)
theorem wd_558 : (Cond.code ySC_size prog_1_method_17_code (2 : Nat) (Option.some Jvm.ClassFile.FieldType.int)) ∈ zT := z_mem 558 (by decide +kernel) (by decide +kernel)
theorem wd_560 : (Cond.instanceMethod ySC_edge) ∈ zT := z_mem 560 (by decide +kernel) (by decide +kernel)
theorem wd_561 : (Cond.selects "SpannedCells" ySC_edge ySC_edge) ∈ zT := z_mem 561 (by decide +kernel) (by decide +kernel)
theorem wd_562 : (Cond.code ySC_edge prog_1_method_18_code (5 : Nat) (Option.some Jvm.ClassFile.FieldType.int)) ∈ zT := z_mem 562 (by decide +kernel) (by decide +kernel)
theorem wd_563 : (Cond.methodLink "SpannedCells" (145 : Nat) yGR_hasSlot) ∈ zT := z_mem 563 (by decide +kernel) (by decide +kernel)
theorem wd_564 : (Cond.instanceMethod yGR_hasSlot) ∈ zT := z_mem 564 (by decide +kernel) (by decide +kernel)
theorem wd_565 : (Cond.selects "SpannedCells$Grid" yGR_hasSlot yGR_hasSlot) ∈ zT := z_mem 565 (by decide +kernel) (by decide +kernel)
theorem wd_566 : (Cond.code yGR_hasSlot prog_3_method_13_code (3 : Nat) (Option.some Jvm.ClassFile.FieldType.boolean)) ∈ zT := z_mem 566 (by decide +kernel) (by decide +kernel)
theorem wd_568 : (Cond.methodLink "SpannedCells" (149 : Nat) yGR_drawnBetween) ∈ zT := z_mem 568 (by decide +kernel) (by decide +kernel)
theorem wd_569 : (Cond.instanceMethod yGR_drawnBetween) ∈ zT := z_mem 569 (by decide +kernel) (by decide +kernel)
theorem wd_570 : (Cond.selects "SpannedCells$Grid" yGR_drawnBetween yGR_drawnBetween) ∈ zT := z_mem 570 (by decide +kernel) (by decide +kernel)
theorem wd_571 : (Cond.code yGR_drawnBetween prog_3_method_21_code (3 : Nat) (Option.some Jvm.ClassFile.FieldType.int)) ∈ zT := z_mem 571 (by decide +kernel) (by decide +kernel)
theorem wd_572 : (Cond.methodLink "SpannedCells$Grid" (104 : Nat) yGR_hasCell) ∈ zT := z_mem 572 (by decide +kernel) (by decide +kernel)
theorem wd_573 : (Cond.methodLink "SpannedCells$Grid" (107 : Nat) yGR_cellAt) ∈ zT := z_mem 573 (by decide +kernel) (by decide +kernel)
theorem wd_574 : (Cond.methodLink "SpannedCells$Grid" (111 : Nat) yCE_prevailsOver) ∈ zT := z_mem 574 (by decide +kernel) (by decide +kernel)
theorem wd_575 : (Cond.instanceMethod yCE_prevailsOver) ∈ zT := z_mem 575 (by decide +kernel) (by decide +kernel)
theorem wd_576 : (Cond.selects "SpannedCells$Cell" yCE_prevailsOver yCE_prevailsOver) ∈ zT := z_mem 576 (by decide +kernel) (by decide +kernel)
theorem wd_577 : (Cond.code yCE_prevailsOver prog_2_method_7_code (2 : Nat) (Option.some Jvm.ClassFile.FieldType.boolean)) ∈ zT := z_mem 577 (by decide +kernel) (by decide +kernel)
theorem wd_579 : (Cond.instantiable "SpannedCellsModel" (26 : Nat)) ∈ zT := z_mem 579 (by decide +kernel) (by decide +kernel)
theorem wd_581 : (Cond.instanceMethod yMD_init) ∈ zT := z_mem 581 (by decide +kernel) (by decide +kernel)
theorem wd_582 : (Cond.code yMD_init prog_8_method_1_code (1 : Nat) (Option.none : Option Jvm.ClassFile.FieldType)) ∈ zT := z_mem 582 (by decide +kernel) (by decide +kernel)
theorem wd_583 : (Cond.methodLink "SpannedCellsModel" (1 : Nat) objectInit) ∈ zT := z_mem 583 (by decide +kernel) (by decide +kernel)
theorem wd_584 : (Cond.fieldLink "SpannedCellsModel" (7 : Nat) "SpannedCellsModel" "groups" "I") ∈ zT := z_mem 584 (by decide +kernel) (by decide +kernel)
theorem wd_585 : (Cond.fieldLink "SpannedCellsModel" (13 : Nat) "SpannedCellsModel" "bases" "[I") ∈ zT := z_mem 585 (by decide +kernel) (by decide +kernel)
theorem wd_586 : (Cond.fieldLink "SpannedCellsModel" (17 : Nat) "SpannedCellsModel" "begun" "[I") ∈ zT := z_mem 586 (by decide +kernel) (by decide +kernel)
theorem wd_587 : (Cond.fieldLink "SpannedCellsModel" (72 : Nat) "SpannedCellsModel" "cells" "I") ∈ zT := z_mem 587 (by decide +kernel) (by decide +kernel)
theorem wd_588 : (Cond.fieldLink "SpannedCellsModel" (20 : Nat) "SpannedCellsModel" "lefts" "[I") ∈ zT := z_mem 588 (by decide +kernel) (by decide +kernel)
theorem wd_589 : (Cond.fieldLink "SpannedCellsModel" (23 : Nat) "SpannedCellsModel" "tops" "[I") ∈ zT := z_mem 589 (by decide +kernel) (by decide +kernel)
theorem wd_590 : (Cond.fieldLink "SpannedCellsModel" (26 : Nat) "SpannedCellsModel" "across" "[I") ∈ zT := z_mem 590 (by decide +kernel) (by decide +kernel)
theorem wd_591 : (Cond.fieldLink "SpannedCellsModel" (29 : Nat) "SpannedCellsModel" "wants" "[I") ∈ zT := z_mem 591 (by decide +kernel) (by decide +kernel)
theorem wd_592 : (Cond.fieldLink "SpannedCellsModel" (32 : Nat) "SpannedCellsModel" "groupOf" "[I") ∈ zT := z_mem 592 (by decide +kernel) (by decide +kernel)
theorem wd_593 : (Cond.fieldLink "SpannedCellsModel" (35 : Nat) "SpannedCellsModel" "leasts" "[I") ∈ zT := z_mem 593 (by decide +kernel) (by decide +kernel)
end
section
theorem wd_594 : (Cond.fieldLink "SpannedCellsModel" (38 : Nat) "SpannedCellsModel" "mosts" "[I") ∈ zT := z_mem 594 (by decide +kernel) (by decide +kernel)
theorem wd_595 : (Cond.fieldLink "SpannedCellsModel" (41 : Nat) "SpannedCellsModel" "needs" "[I") ∈ zT := z_mem 595 (by decide +kernel) (by decide +kernel)
theorem wd_596 : (Cond.fieldLink "SpannedCellsModel" (44 : Nat) "SpannedCellsModel" "thick" "[I") ∈ zT := z_mem 596 (by decide +kernel) (by decide +kernel)
theorem wd_597 : (Cond.fieldLink "SpannedCellsModel" (47 : Nat) "SpannedCellsModel" "ranks" "[I") ∈ zT := z_mem 597 (by decide +kernel) (by decide +kernel)
theorem wd_598 : (Cond.fieldLink "SpannedCellsModel" (50 : Nat) "SpannedCellsModel" "rowGroup" "I") ∈ zT := z_mem 598 (by decide +kernel) (by decide +kernel)
theorem wd_599 : (Cond.fieldLink "SpannedCellsModel" (79 : Nat) "SpannedCellsModel" "rowNumber" "I") ∈ zT := z_mem 599 (by decide +kernel) (by decide +kernel)
theorem wd_600 : (Cond.fieldLink "SpannedCellsModel" (82 : Nat) "SpannedCellsModel" "rowEnd" "I") ∈ zT := z_mem 600 (by decide +kernel) (by decide +kernel)
theorem wd_601 : (Cond.fieldLink "SpannedCellsModel" (92 : Nat) "SpannedCellsModel" "space" "I") ∈ zT := z_mem 601 (by decide +kernel) (by decide +kernel)
theorem wd_602 : (Cond.fieldLink "SpannedCellsModel" (95 : Nat) "SpannedCellsModel" "gap" "I") ∈ zT := z_mem 602 (by decide +kernel) (by decide +kernel)
theorem wd_603 : (Cond.fieldLink "SpannedCellsModel" (98 : Nat) "SpannedCellsModel" "fixed" "Z") ∈ zT := z_mem 603 (by decide +kernel) (by decide +kernel)
theorem wd_604 : (Cond.fieldLink "SpannedCellsModel" (53 : Nat) "SpannedCellsModel" "least" "[I") ∈ zT := z_mem 604 (by decide +kernel) (by decide +kernel)
theorem wd_605 : (Cond.fieldLink "SpannedCellsModel" (56 : Nat) "SpannedCellsModel" "most" "[I") ∈ zT := z_mem 605 (by decide +kernel) (by decide +kernel)
theorem wd_606 : (Cond.fieldLink "SpannedCellsModel" (59 : Nat) "SpannedCellsModel" "width" "[I") ∈ zT := z_mem 606 (by decide +kernel) (by decide +kernel)
theorem wd_607 : (Cond.fieldLink "SpannedCellsModel" (62 : Nat) "SpannedCellsModel" "height" "[I") ∈ zT := z_mem 607 (by decide +kernel) (by decide +kernel)
theorem wd_608 : (Cond.fieldLink "SpannedCellsModel" (65 : Nat) "SpannedCellsModel" "given" "[Z") ∈ zT := z_mem 608 (by decide +kernel) (by decide +kernel)
theorem wd_609 : (Cond.fieldLink "SpannedCellsModel" (69 : Nat) "SpannedCellsModel" "weights" "[I") ∈ zT := z_mem 609 (by decide +kernel) (by decide +kernel)
theorem wd_610 : (Cond.lays "SpannedCellsModel" "SpannedCellsModel" "groups" "I") ∈ zT := z_mem 610 (by decide +kernel) (by decide +kernel)
theorem wd_612 : (Cond.laysFinal "SpannedCellsModel" "SpannedCellsModel" "bases" "[I") ∈ zT := z_mem 612 (by decide +kernel) (by decide +kernel)
theorem wd_614 : (Cond.laysFinal "SpannedCellsModel" "SpannedCellsModel" "begun" "[I") ∈ zT := z_mem 614 (by decide +kernel) (by decide +kernel)
theorem wd_616 : (Cond.lays "SpannedCellsModel" "SpannedCellsModel" "cells" "I") ∈ zT := z_mem 616 (by decide +kernel) (by decide +kernel)
theorem wd_618 : (Cond.laysFinal "SpannedCellsModel" "SpannedCellsModel" "lefts" "[I") ∈ zT := z_mem 618 (by decide +kernel) (by decide +kernel)
theorem wd_620 : (Cond.laysFinal "SpannedCellsModel" "SpannedCellsModel" "tops" "[I") ∈ zT := z_mem 620 (by decide +kernel) (by decide +kernel)
theorem wd_622 : (Cond.laysFinal "SpannedCellsModel" "SpannedCellsModel" "across" "[I") ∈ zT := z_mem 622 (by decide +kernel) (by decide +kernel)
theorem wd_624 : (Cond.laysFinal "SpannedCellsModel" "SpannedCellsModel" "wants" "[I") ∈ zT := z_mem 624 (by decide +kernel) (by decide +kernel)
theorem wd_626 : (Cond.laysFinal "SpannedCellsModel" "SpannedCellsModel" "groupOf" "[I") ∈ zT := z_mem 626 (by decide +kernel) (by decide +kernel)
theorem wd_628 : (Cond.laysFinal "SpannedCellsModel" "SpannedCellsModel" "leasts" "[I") ∈ zT := z_mem 628 (by decide +kernel) (by decide +kernel)
theorem wd_630 : (Cond.laysFinal "SpannedCellsModel" "SpannedCellsModel" "mosts" "[I") ∈ zT := z_mem 630 (by decide +kernel) (by decide +kernel)
theorem wd_632 : (Cond.laysFinal "SpannedCellsModel" "SpannedCellsModel" "needs" "[I") ∈ zT := z_mem 632 (by decide +kernel) (by decide +kernel)
theorem wd_634 : (Cond.laysFinal "SpannedCellsModel" "SpannedCellsModel" "thick" "[I") ∈ zT := z_mem 634 (by decide +kernel) (by decide +kernel)
theorem wd_636 : (Cond.laysFinal "SpannedCellsModel" "SpannedCellsModel" "ranks" "[I") ∈ zT := z_mem 636 (by decide +kernel) (by decide +kernel)
theorem wd_638 : (Cond.lays "SpannedCellsModel" "SpannedCellsModel" "rowGroup" "I") ∈ zT := z_mem 638 (by decide +kernel) (by decide +kernel)
theorem wd_640 : (Cond.lays "SpannedCellsModel" "SpannedCellsModel" "rowNumber" "I") ∈ zT := z_mem 640 (by decide +kernel) (by decide +kernel)
theorem wd_642 : (Cond.lays "SpannedCellsModel" "SpannedCellsModel" "rowEnd" "I") ∈ zT := z_mem 642 (by decide +kernel) (by decide +kernel)
theorem wd_644 : (Cond.lays "SpannedCellsModel" "SpannedCellsModel" "space" "I") ∈ zT := z_mem 644 (by decide +kernel) (by decide +kernel)
theorem wd_646 : (Cond.lays "SpannedCellsModel" "SpannedCellsModel" "gap" "I") ∈ zT := z_mem 646 (by decide +kernel) (by decide +kernel)
theorem wd_648 : (Cond.lays "SpannedCellsModel" "SpannedCellsModel" "fixed" "Z") ∈ zT := z_mem 648 (by decide +kernel) (by decide +kernel)
theorem wd_650 : (Cond.laysFinal "SpannedCellsModel" "SpannedCellsModel" "least" "[I") ∈ zT := z_mem 650 (by decide +kernel) (by decide +kernel)
theorem wd_652 : (Cond.laysFinal "SpannedCellsModel" "SpannedCellsModel" "most" "[I") ∈ zT := z_mem 652 (by decide +kernel) (by decide +kernel)
theorem wd_654 : (Cond.laysFinal "SpannedCellsModel" "SpannedCellsModel" "width" "[I") ∈ zT := z_mem 654 (by decide +kernel) (by decide +kernel)
theorem wd_656 : (Cond.laysFinal "SpannedCellsModel" "SpannedCellsModel" "height" "[I") ∈ zT := z_mem 656 (by decide +kernel) (by decide +kernel)
theorem wd_658 : (Cond.laysFinal "SpannedCellsModel" "SpannedCellsModel" "given" "[Z") ∈ zT := z_mem 658 (by decide +kernel) (by decide +kernel)
theorem wd_660 : (Cond.laysFinal "SpannedCellsModel" "SpannedCellsModel" "weights" "[I") ∈ zT := z_mem 660 (by decide +kernel) (by decide +kernel)
theorem wd_663 : (Cond.arrayClass Jvm.ClassFile.FieldType.boolean) ∈ zT := z_mem 663 (by decide +kernel) (by decide +kernel)
theorem wd_665 : (Cond.instanceMethod yMD_group) ∈ zT := z_mem 665 (by decide +kernel) (by decide +kernel)
theorem wd_666 : (Cond.selects "SpannedCellsModel" yMD_group yMD_group) ∈ zT := z_mem 666 (by decide +kernel) (by decide +kernel)
theorem wd_667 : (Cond.code yMD_group prog_8_method_3_code (1 : Nat) (Option.some Jvm.ClassFile.FieldType.int)) ∈ zT := z_mem 667 (by decide +kernel) (by decide +kernel)
theorem wd_668 : (Cond.methodLink "SpannedCellsModel" (75 : Nat) yMD_endOf) ∈ zT := z_mem 668 (by decide +kernel) (by decide +kernel)
theorem wd_670 : (Cond.instanceMethod yMD_endOf) ∈ zT := z_mem 670 (by decide +kernel) (by decide +kernel)
theorem wd_671 : (Cond.code yMD_endOf prog_8_method_2_code (5 : Nat) (Option.some Jvm.ClassFile.FieldType.int)) ∈ zT := z_mem 671 (by decide +kernel) (by decide +kernel)
theorem wd_673 : (Cond.instanceMethod yMD_row) ∈ zT := z_mem 673 (by decide +kernel) (by decide +kernel)
theorem wd_674 : (Cond.selects "SpannedCellsModel" yMD_row yMD_row) ∈ zT := z_mem 674 (by decide +kernel) (by decide +kernel)
theorem wd_675 : (Cond.code yMD_row prog_8_method_4_code (3 : Nat) (Option.some Jvm.ClassFile.FieldType.int)) ∈ zT := z_mem 675 (by decide +kernel) (by decide +kernel)
theorem wd_677 : (Cond.instanceMethod yMD_cell) ∈ zT := z_mem 677 (by decide +kernel) (by decide +kernel)
theorem wd_678 : (Cond.selects "SpannedCellsModel" yMD_cell yMD_cell) ∈ zT := z_mem 678 (by decide +kernel) (by decide +kernel)
theorem wd_679 : (Cond.code yMD_cell prog_8_method_6_code (9 : Nat) (Option.some Jvm.ClassFile.FieldType.int)) ∈ zT := z_mem 679 (by decide +kernel) (by decide +kernel)
theorem wd_680 : (Cond.methodLink "SpannedCellsModel" (85 : Nat) yMD_isTaken) ∈ zT := z_mem 680 (by decide +kernel) (by decide +kernel)
theorem wd_682 : (Cond.instanceMethod yMD_isTaken) ∈ zT := z_mem 682 (by decide +kernel) (by decide +kernel)
theorem wd_683 : (Cond.code yMD_isTaken prog_8_method_5_code (5 : Nat) (Option.some Jvm.ClassFile.FieldType.boolean)) ∈ zT := z_mem 683 (by decide +kernel) (by decide +kernel)
theorem wd_685 : (Cond.instanceMethod yMD_border) ∈ zT := z_mem 685 (by decide +kernel) (by decide +kernel)
theorem wd_686 : (Cond.selects "SpannedCellsModel" yMD_border yMD_border) ∈ zT := z_mem 686 (by decide +kernel) (by decide +kernel)
theorem wd_687 : (Cond.code yMD_border prog_8_method_8_code (4 : Nat) (Option.some Jvm.ClassFile.FieldType.boolean)) ∈ zT := z_mem 687 (by decide +kernel) (by decide +kernel)
theorem wd_688 : (Cond.methodLink "SpannedCellsModel" (89 : Nat) yMD_isCell) ∈ zT := z_mem 688 (by decide +kernel) (by decide +kernel)
theorem wd_690 : (Cond.instanceMethod yMD_isCell) ∈ zT := z_mem 690 (by decide +kernel) (by decide +kernel)
theorem wd_691 : (Cond.code yMD_isCell prog_8_method_7_code (2 : Nat) (Option.some Jvm.ClassFile.FieldType.boolean)) ∈ zT := z_mem 691 (by decide +kernel) (by decide +kernel)
theorem wd_693 : (Cond.instanceMethod yMD_layout) ∈ zT := z_mem 693 (by decide +kernel) (by decide +kernel)
theorem wd_694 : (Cond.selects "SpannedCellsModel" yMD_layout yMD_layout) ∈ zT := z_mem 694 (by decide +kernel) (by decide +kernel)
theorem wd_695 : (Cond.code yMD_layout prog_8_method_9_code (4 : Nat) (Option.some Jvm.ClassFile.FieldType.boolean)) ∈ zT := z_mem 695 (by decide +kernel) (by decide +kernel)
theorem wd_697 : (Cond.instanceMethod yMD_clear) ∈ zT := z_mem 697 (by decide +kernel) (by decide +kernel)
theorem wd_698 : (Cond.selects "SpannedCellsModel" yMD_clear yMD_clear) ∈ zT := z_mem 698 (by decide +kernel) (by decide +kernel)
theorem wd_699 : (Cond.code yMD_clear prog_8_method_10_code (2 : Nat) (Option.some Jvm.ClassFile.FieldType.int)) ∈ zT := z_mem 699 (by decide +kernel) (by decide +kernel)
theorem wd_701 : (Cond.instanceMethod yMD_columns) ∈ zT := z_mem 701 (by decide +kernel) (by decide +kernel)
theorem wd_702 : (Cond.selects "SpannedCellsModel" yMD_columns yMD_columns) ∈ zT := z_mem 702 (by decide +kernel) (by decide +kernel)
theorem wd_703 : (Cond.code yMD_columns prog_8_method_11_code (3 : Nat) (Option.some Jvm.ClassFile.FieldType.int)) ∈ zT := z_mem 703 (by decide +kernel) (by decide +kernel)
theorem wd_705 : (Cond.instanceMethod yMD_rows) ∈ zT := z_mem 705 (by decide +kernel) (by decide +kernel)
theorem wd_706 : (Cond.selects "SpannedCellsModel" yMD_rows yMD_rows) ∈ zT := z_mem 706 (by decide +kernel) (by decide +kernel)
theorem wd_707 : (Cond.code yMD_rows prog_8_method_12_code (1 : Nat) (Option.some Jvm.ClassFile.FieldType.int)) ∈ zT := z_mem 707 (by decide +kernel) (by decide +kernel)
theorem wd_709 : (Cond.instanceMethod yMD_slot) ∈ zT := z_mem 709 (by decide +kernel) (by decide +kernel)
theorem wd_710 : (Cond.selects "SpannedCellsModel" yMD_slot yMD_slot) ∈ zT := z_mem 710 (by decide +kernel) (by decide +kernel)
theorem wd_711 : (Cond.code yMD_slot prog_8_method_16_code (5 : Nat) (Option.some Jvm.ClassFile.FieldType.int)) ∈ zT := z_mem 711 (by decide +kernel) (by decide +kernel)
theorem wd_712 : (Cond.methodLink "SpannedCellsModel" (105 : Nat) yMD_takes) ∈ zT := z_mem 712 (by decide +kernel) (by decide +kernel)
theorem wd_714 : (Cond.instanceMethod yMD_takes) ∈ zT := z_mem 714 (by decide +kernel) (by decide +kernel)
theorem wd_715 : (Cond.code yMD_takes prog_8_method_14_code (4 : Nat) (Option.some Jvm.ClassFile.FieldType.boolean)) ∈ zT := z_mem 715 (by decide +kernel) (by decide +kernel)
theorem wd_716 : (Cond.methodLink "SpannedCellsModel" (102 : Nat) yMD_down) ∈ zT := z_mem 716 (by decide +kernel) (by decide +kernel)
theorem wd_718 : (Cond.instanceMethod yMD_down) ∈ zT := z_mem 718 (by decide +kernel) (by decide +kernel)
theorem wd_719 : (Cond.code yMD_down prog_8_method_13_code (2 : Nat) (Option.some Jvm.ClassFile.FieldType.int)) ∈ zT := z_mem 719 (by decide +kernel) (by decide +kernel)
theorem wd_721 : (Cond.instanceMethod yMD_overlaps) ∈ zT := z_mem 721 (by decide +kernel) (by decide +kernel)
theorem wd_722 : (Cond.selects "SpannedCellsModel" yMD_overlaps yMD_overlaps) ∈ zT := z_mem 722 (by decide +kernel) (by decide +kernel)
theorem wd_723 : (Cond.code yMD_overlaps prog_8_method_17_code (4 : Nat) (Option.some Jvm.ClassFile.FieldType.int)) ∈ zT := z_mem 723 (by decide +kernel) (by decide +kernel)
theorem wd_724 : (Cond.methodLink "SpannedCellsModel" (109 : Nat) yMD_howMany) ∈ zT := z_mem 724 (by decide +kernel) (by decide +kernel)
theorem wd_726 : (Cond.instanceMethod yMD_howMany) ∈ zT := z_mem 726 (by decide +kernel) (by decide +kernel)
theorem wd_727 : (Cond.code yMD_howMany prog_8_method_15_code (5 : Nat) (Option.some Jvm.ClassFile.FieldType.int)) ∈ zT := z_mem 727 (by decide +kernel) (by decide +kernel)
theorem wd_729 : (Cond.instanceMethod yMD_empties) ∈ zT := z_mem 729 (by decide +kernel) (by decide +kernel)
theorem wd_730 : (Cond.selects "SpannedCellsModel" yMD_empties yMD_empties) ∈ zT := z_mem 730 (by decide +kernel) (by decide +kernel)
theorem wd_731 : (Cond.code yMD_empties prog_8_method_18_code (6 : Nat) (Option.some Jvm.ClassFile.FieldType.int)) ∈ zT := z_mem 731 (by decide +kernel) (by decide +kernel)
theorem wd_732 : (Cond.methodLink "SpannedCellsModel" (113 : Nat) yMD_columns) ∈ zT := z_mem 732 (by decide +kernel) (by decide +kernel)
theorem wd_733 : (Cond.methodLink "SpannedCellsModel" (117 : Nat) yMD_rows) ∈ zT := z_mem 733 (by decide +kernel) (by decide +kernel)
theorem wd_735 : (Cond.instanceMethod yMD_span) ∈ zT := z_mem 735 (by decide +kernel) (by decide +kernel)
theorem wd_736 : (Cond.selects "SpannedCellsModel" yMD_span yMD_span) ∈ zT := z_mem 736 (by decide +kernel) (by decide +kernel)
theorem wd_737 : (Cond.code yMD_span prog_8_method_19_code (2 : Nat) (Option.some Jvm.ClassFile.FieldType.int)) ∈ zT := z_mem 737 (by decide +kernel) (by decide +kernel)
theorem wd_738 : (Cond.constant "SpannedCellsModel" (120 : Nat) (1000000 : Int32)) ∈ zT := z_mem 738 (by decide +kernel) (by decide +kernel)
theorem wd_740 : (Cond.instanceMethod yMD_wide) ∈ zT := z_mem 740 (by decide +kernel) (by decide +kernel)
theorem wd_741 : (Cond.selects "SpannedCellsModel" yMD_wide yMD_wide) ∈ zT := z_mem 741 (by decide +kernel) (by decide +kernel)
theorem wd_742 : (Cond.code yMD_wide prog_8_method_30_code (3 : Nat) (Option.some Jvm.ClassFile.FieldType.int)) ∈ zT := z_mem 742 (by decide +kernel) (by decide +kernel)
theorem wd_743 : (Cond.methodLink "SpannedCellsModel" (149 : Nat) yMD_findWidths) ∈ zT := z_mem 743 (by decide +kernel) (by decide +kernel)
theorem wd_745 : (Cond.instanceMethod yMD_findWidths) ∈ zT := z_mem 745 (by decide +kernel) (by decide +kernel)
theorem wd_746 : (Cond.code yMD_findWidths prog_8_method_28_code (6 : Nat) (Option.none : Option Jvm.ClassFile.FieldType)) ∈ zT := z_mem 746 (by decide +kernel) (by decide +kernel)
theorem wd_747 : (Cond.methodLink "SpannedCellsModel" (143 : Nat) yMD_measure) ∈ zT := z_mem 747 (by decide +kernel) (by decide +kernel)
theorem wd_749 : (Cond.instanceMethod yMD_measure) ∈ zT := z_mem 749 (by decide +kernel) (by decide +kernel)
theorem wd_750 : (Cond.code yMD_measure prog_8_method_25_code (3 : Nat) (Option.none : Option Jvm.ClassFile.FieldType)) ∈ zT := z_mem 750 (by decide +kernel) (by decide +kernel)
theorem wd_751 : (Cond.methodLink "SpannedCellsModel" (136 : Nat) yMD_measureCell) ∈ zT := z_mem 751 (by decide +kernel) (by decide +kernel)
theorem wd_753 : (Cond.instanceMethod yMD_measureCell) ∈ zT := z_mem 753 (by decide +kernel) (by decide +kernel)
theorem wd_754 : (Cond.code yMD_measureCell prog_8_method_24_code (8 : Nat) (Option.none : Option Jvm.ClassFile.FieldType)) ∈ zT := z_mem 754 (by decide +kernel) (by decide +kernel)
theorem wd_755 : (Cond.methodLink "SpannedCellsModel" (121 : Nat) yMD_greater) ∈ zT := z_mem 755 (by decide +kernel) (by decide +kernel)
theorem wd_756 : (Cond.static yMD_greater) ∈ zT := z_mem 756 (by decide +kernel) (by decide +kernel)
theorem wd_757 : (Cond.code yMD_greater prog_8_method_22_code (2 : Nat) (Option.some Jvm.ClassFile.FieldType.int)) ∈ zT := z_mem 757 (by decide +kernel) (by decide +kernel)
theorem wd_758 : (Cond.methodLink "SpannedCellsModel" (124 : Nat) yMD_weigh) ∈ zT := z_mem 758 (by decide +kernel) (by decide +kernel)
theorem wd_760 : (Cond.instanceMethod yMD_weigh) ∈ zT := z_mem 760 (by decide +kernel) (by decide +kernel)
theorem wd_761 : (Cond.code yMD_weigh prog_8_method_23_code (3 : Nat) (Option.none : Option Jvm.ClassFile.FieldType)) ∈ zT := z_mem 761 (by decide +kernel) (by decide +kernel)
theorem wd_762 : (Cond.methodLink "SpannedCellsModel" (128 : Nat) yMD_sumOf) ∈ zT := z_mem 762 (by decide +kernel) (by decide +kernel)
theorem wd_763 : (Cond.static yMD_sumOf) ∈ zT := z_mem 763 (by decide +kernel) (by decide +kernel)
theorem wd_764 : (Cond.code yMD_sumOf prog_8_method_21_code (5 : Nat) (Option.some Jvm.ClassFile.FieldType.int)) ∈ zT := z_mem 764 (by decide +kernel) (by decide +kernel)
theorem wd_765 : (Cond.methodLink "SpannedCellsModel" (132 : Nat) yMD_share) ∈ zT := z_mem 765 (by decide +kernel) (by decide +kernel)
theorem wd_767 : (Cond.instanceMethod yMD_share) ∈ zT := z_mem 767 (by decide +kernel) (by decide +kernel)
theorem wd_768 : (Cond.code yMD_share prog_8_method_20_code (9 : Nat) (Option.none : Option Jvm.ClassFile.FieldType)) ∈ zT := z_mem 768 (by decide +kernel) (by decide +kernel)
theorem wd_769 : (Cond.methodLink "SpannedCellsModel" (146 : Nat) yMD_fixWidths) ∈ zT := z_mem 769 (by decide +kernel) (by decide +kernel)
theorem wd_771 : (Cond.instanceMethod yMD_fixWidths) ∈ zT := z_mem 771 (by decide +kernel) (by decide +kernel)
theorem wd_772 : (Cond.code yMD_fixWidths prog_8_method_27_code (7 : Nat) (Option.none : Option Jvm.ClassFile.FieldType)) ∈ zT := z_mem 772 (by decide +kernel) (by decide +kernel)
theorem wd_773 : (Cond.methodLink "SpannedCellsModel" (140 : Nat) yMD_room) ∈ zT := z_mem 773 (by decide +kernel) (by decide +kernel)
theorem wd_775 : (Cond.instanceMethod yMD_room) ∈ zT := z_mem 775 (by decide +kernel) (by decide +kernel)
theorem wd_776 : (Cond.code yMD_room prog_8_method_26_code (1 : Nat) (Option.some Jvm.ClassFile.FieldType.int)) ∈ zT := z_mem 776 (by decide +kernel) (by decide +kernel)
theorem wd_778 : (Cond.instanceMethod yMD_high) ∈ zT := z_mem 778 (by decide +kernel) (by decide +kernel)
theorem wd_779 : (Cond.selects "SpannedCellsModel" yMD_high yMD_high) ∈ zT := z_mem 779 (by decide +kernel) (by decide +kernel)
theorem wd_780 : (Cond.code yMD_high prog_8_method_31_code (2 : Nat) (Option.some Jvm.ClassFile.FieldType.int)) ∈ zT := z_mem 780 (by decide +kernel) (by decide +kernel)
theorem wd_781 : (Cond.methodLink "SpannedCellsModel" (152 : Nat) yMD_findHeights) ∈ zT := z_mem 781 (by decide +kernel) (by decide +kernel)
theorem wd_783 : (Cond.instanceMethod yMD_findHeights) ∈ zT := z_mem 783 (by decide +kernel) (by decide +kernel)
theorem wd_784 : (Cond.code yMD_findHeights prog_8_method_29_code (5 : Nat) (Option.none : Option Jvm.ClassFile.FieldType)) ∈ zT := z_mem 784 (by decide +kernel) (by decide +kernel)
theorem wd_786 : (Cond.instanceMethod yMD_place) ∈ zT := z_mem 786 (by decide +kernel) (by decide +kernel)
theorem wd_787 : (Cond.selects "SpannedCellsModel" yMD_place yMD_place) ∈ zT := z_mem 787 (by decide +kernel) (by decide +kernel)
theorem wd_788 : (Cond.code yMD_place prog_8_method_32_code (7 : Nat) (Option.some Jvm.ClassFile.FieldType.int)) ∈ zT := z_mem 788 (by decide +kernel) (by decide +kernel)
theorem wd_790 : (Cond.instanceMethod yMD_size) ∈ zT := z_mem 790 (by decide +kernel) (by decide +kernel)
theorem wd_791 : (Cond.selects "SpannedCellsModel" yMD_size yMD_size) ∈ zT := z_mem 791 (by decide +kernel) (by decide +kernel)
theorem wd_792 : (Cond.code yMD_size prog_8_method_33_code (3 : Nat) (Option.some Jvm.ClassFile.FieldType.int)) ∈ zT := z_mem 792 (by decide +kernel) (by decide +kernel)
theorem wd_794 : (Cond.instanceMethod yMD_edge) ∈ zT := z_mem 794 (by decide +kernel) (by decide +kernel)
theorem wd_795 : (Cond.selects "SpannedCellsModel" yMD_edge yMD_edge) ∈ zT := z_mem 795 (by decide +kernel) (by decide +kernel)
theorem wd_796 : (Cond.code yMD_edge prog_8_method_35_code (6 : Nat) (Option.some Jvm.ClassFile.FieldType.int)) ∈ zT := z_mem 796 (by decide +kernel) (by decide +kernel)
theorem wd_797 : (Cond.methodLink "SpannedCellsModel" (155 : Nat) yMD_slot) ∈ zT := z_mem 797 (by decide +kernel) (by decide +kernel)
theorem wd_798 : (Cond.methodLink "SpannedCellsModel" (158 : Nat) yMD_stronger) ∈ zT := z_mem 798 (by decide +kernel) (by decide +kernel)
theorem wd_800 : (Cond.instanceMethod yMD_stronger) ∈ zT := z_mem 800 (by decide +kernel) (by decide +kernel)
theorem wd_801 : (Cond.code yMD_stronger prog_8_method_34_code (3 : Nat) (Option.some Jvm.ClassFile.FieldType.int)) ∈ zT := z_mem 801 (by decide +kernel) (by decide +kernel)
theorem wd_804 : (Cond.selects "[Ljava/lang/Object;" ⟨"java/lang/Object", "getClass", "()Ljava/lang/Class;"⟩ ⟨"java/lang/Object", "getClass", "()Ljava/lang/Class;"⟩) ∈ zT := z_mem 804 (by decide +kernel) (by decide +kernel)
end
section
theorem dAB_init_0 : decode cAB_init 0 = .ok (.aload_n 0, 1) := by decide +kernel
theorem dAB_init_1 : decode cAB_init 1 = .ok (.invokespecial 1, 3) := by decide +kernel
theorem dAB_init_4 : decode cAB_init 4 = .ok (.aload_n 0, 1) := by decide +kernel
theorem dAB_init_5 : decode cAB_init 5 = .ok (.iconst 0, 1) := by decide +kernel
theorem dAB_init_6 : decode cAB_init 6 = .ok (.putfield 7, 3) := by decide +kernel
theorem dAB_init_9 : decode cAB_init 9 = .ok (.return_, 1) := by decide +kernel
theorem dAC_init_0 : decode cAC_init 0 = .ok (.aload_n 0, 1) := by decide +kernel
theorem dAC_init_1 : decode cAC_init 1 = .ok (.invokespecial 1, 3) := by decide +kernel
theorem dAC_init_4 : decode cAC_init 4 = .ok (.return_, 1) := by decide +kernel
theorem dAL_add_0 : decode cAL_add 0 = .ok (.aload_n 0, 1) := by decide +kernel
theorem dAL_add_1 : decode cAL_add 1 = .ok (.dup, 1) := by decide +kernel
theorem dAL_add_2 : decode cAL_add 2 = .ok (.getfield 63, 3) := by decide +kernel
theorem dAL_add_5 : decode cAL_add 5 = .ok (.iconst 1, 1) := by decide +kernel
theorem dAL_add_6 : decode cAL_add 6 = .ok (.iadd, 1) := by decide +kernel
theorem dAL_add_7 : decode cAL_add 7 = .ok (.putfield 63, 3) := by decide +kernel
theorem dAL_add_10 : decode cAL_add 10 = .ok (.aload_n 0, 1) := by decide +kernel
theorem dAL_add_11 : decode cAL_add 11 = .ok (.aload_n 1, 1) := by decide +kernel
theorem dAL_add_12 : decode cAL_add 12 = .ok (.aload_n 0, 1) := by decide +kernel
theorem dAL_add_13 : decode cAL_add 13 = .ok (.getfield 9, 3) := by decide +kernel
theorem dAL_add_16 : decode cAL_add 16 = .ok (.aload_n 0, 1) := by decide +kernel
theorem dAL_add_17 : decode cAL_add 17 = .ok (.getfield 48, 3) := by decide +kernel
theorem dAL_add_20 : decode cAL_add 20 = .ok (.invokevirtual 131, 3) := by decide +kernel
theorem dAL_add_23 : decode cAL_add 23 = .ok (.iconst 1, 1) := by decide +kernel
theorem dAL_add_24 : decode cAL_add 24 = .ok (.ireturn, 1) := by decide +kernel
theorem dAL_add_41_0 : decode cAL_add_41 0 = .ok (.iload_n 3, 1) := by decide +kernel
theorem dAL_add_41_1 : decode cAL_add_41 1 = .ok (.aload_n 2, 1) := by decide +kernel
theorem dAL_add_41_2 : decode cAL_add_41 2 = .ok (.arraylength, 1) := by decide +kernel
theorem dAL_add_41_3 : decode cAL_add_41 3 = .ok (.if_icmp .ne 8, 3) := by decide +kernel
theorem dAL_add_41_6 : decode cAL_add_41 6 = .ok (.aload_n 0, 1) := by decide +kernel
theorem dAL_add_41_7 : decode cAL_add_41 7 = .ok (.invokevirtual 129, 3) := by decide +kernel
theorem dAL_add_41_10 : decode cAL_add_41 10 = .ok (.astore_n 2, 1) := by decide +kernel
theorem dAL_add_41_11 : decode cAL_add_41 11 = .ok (.aload_n 2, 1) := by decide +kernel
theorem dAL_add_41_12 : decode cAL_add_41 12 = .ok (.iload_n 3, 1) := by decide +kernel
theorem dAL_add_41_13 : decode cAL_add_41 13 = .ok (.aload_n 1, 1) := by decide +kernel
theorem dAL_add_41_14 : decode cAL_add_41 14 = .ok (.aastore, 1) := by decide +kernel
theorem dAL_add_41_15 : decode cAL_add_41 15 = .ok (.aload_n 0, 1) := by decide +kernel
theorem dAL_add_41_16 : decode cAL_add_41 16 = .ok (.iload_n 3, 1) := by decide +kernel
theorem dAL_add_41_17 : decode cAL_add_41 17 = .ok (.iconst 1, 1) := by decide +kernel
theorem dAL_add_41_18 : decode cAL_add_41 18 = .ok (.iadd, 1) := by decide +kernel
theorem dAL_add_41_19 : decode cAL_add_41 19 = .ok (.putfield 48, 3) := by decide +kernel
theorem dAL_add_41_22 : decode cAL_add_41 22 = .ok (.return_, 1) := by decide +kernel
theorem dAL_clear_0 : decode cAL_clear 0 = .ok (.aload_n 0, 1) := by decide +kernel
theorem dAL_clear_1 : decode cAL_clear 1 = .ok (.dup, 1) := by decide +kernel
theorem dAL_clear_2 : decode cAL_clear 2 = .ok (.getfield 63, 3) := by decide +kernel
theorem dAL_clear_5 : decode cAL_clear 5 = .ok (.iconst 1, 1) := by decide +kernel
theorem dAL_clear_6 : decode cAL_clear 6 = .ok (.iadd, 1) := by decide +kernel
theorem dAL_clear_7 : decode cAL_clear 7 = .ok (.putfield 63, 3) := by decide +kernel
theorem dAL_clear_10 : decode cAL_clear 10 = .ok (.aload_n 0, 1) := by decide +kernel
theorem dAL_clear_11 : decode cAL_clear 11 = .ok (.getfield 9, 3) := by decide +kernel
theorem dAL_clear_14 : decode cAL_clear 14 = .ok (.astore_n 1, 1) := by decide +kernel
theorem dAL_clear_15 : decode cAL_clear 15 = .ok (.aload_n 0, 1) := by decide +kernel
theorem dAL_clear_16 : decode cAL_clear 16 = .ok (.getfield 48, 3) := by decide +kernel
theorem dAL_clear_19 : decode cAL_clear 19 = .ok (.istore_n 2, 1) := by decide +kernel
theorem dAL_clear_20 : decode cAL_clear 20 = .ok (.aload_n 0, 1) := by decide +kernel
theorem dAL_clear_21 : decode cAL_clear 21 = .ok (.iconst 0, 1) := by decide +kernel
theorem dAL_clear_22 : decode cAL_clear 22 = .ok (.dup_x1, 1) := by decide +kernel
theorem dAL_clear_23 : decode cAL_clear 23 = .ok (.putfield 48, 3) := by decide +kernel
theorem dAL_clear_26 : decode cAL_clear 26 = .ok (.istore_n 3, 1) := by decide +kernel
theorem dAL_clear_27 : decode cAL_clear 27 = .ok (.iload_n 3, 1) := by decide +kernel
theorem dAL_clear_28 : decode cAL_clear 28 = .ok (.iload_n 2, 1) := by decide +kernel
theorem dAL_clear_29 : decode cAL_clear 29 = .ok (.if_icmp .ge 13, 3) := by decide +kernel
theorem dAL_clear_32 : decode cAL_clear 32 = .ok (.aload_n 1, 1) := by decide +kernel
theorem dAL_clear_33 : decode cAL_clear 33 = .ok (.iload_n 3, 1) := by decide +kernel
theorem dAL_clear_34 : decode cAL_clear 34 = .ok (.aconst_null, 1) := by decide +kernel
theorem dAL_clear_35 : decode cAL_clear 35 = .ok (.aastore, 1) := by decide +kernel
theorem dAL_clear_36 : decode cAL_clear 36 = .ok (.iinc 3 1, 3) := by decide +kernel
theorem dAL_clear_39 : decode cAL_clear 39 = .ok (.goto (-12), 3) := by decide +kernel
theorem dAL_clear_42 : decode cAL_clear 42 = .ok (.return_, 1) := by decide +kernel
theorem dAL_elementData_0 : decode cAL_elementData 0 = .ok (.aload_n 0, 1) := by decide +kernel
theorem dAL_elementData_1 : decode cAL_elementData 1 = .ok (.getfield 9, 3) := by decide +kernel
theorem dAL_elementData_4 : decode cAL_elementData 4 = .ok (.iload_n 1, 1) := by decide +kernel
theorem dAL_elementData_5 : decode cAL_elementData 5 = .ok (.aaload, 1) := by decide +kernel
theorem dAL_elementData_6 : decode cAL_elementData 6 = .ok (.areturn, 1) := by decide +kernel
theorem dAL_get_0 : decode cAL_get 0 = .ok (.iload_n 1, 1) := by decide +kernel
theorem dAL_get_1 : decode cAL_get 1 = .ok (.aload_n 0, 1) := by decide +kernel
theorem dAL_get_2 : decode cAL_get 2 = .ok (.getfield 48, 3) := by decide +kernel
theorem dAL_get_5 : decode cAL_get 5 = .ok (.invokestatic 118, 3) := by decide +kernel
theorem dAL_get_8 : decode cAL_get 8 = .ok (.pop, 1) := by decide +kernel
theorem dAL_get_9 : decode cAL_get 9 = .ok (.aload_n 0, 1) := by decide +kernel
theorem dAL_get_10 : decode cAL_get 10 = .ok (.iload_n 1, 1) := by decide +kernel
theorem dAL_get_11 : decode cAL_get 11 = .ok (.invokevirtual 123, 3) := by decide +kernel
theorem dAL_get_14 : decode cAL_get 14 = .ok (.areturn, 1) := by decide +kernel
theorem dAL_grow_0 : decode cAL_grow 0 = .ok (.aload_n 0, 1) := by decide +kernel
theorem dAL_grow_1 : decode cAL_grow 1 = .ok (.aload_n 0, 1) := by decide +kernel
theorem dAL_grow_2 : decode cAL_grow 2 = .ok (.getfield 48, 3) := by decide +kernel
theorem dAL_grow_5 : decode cAL_grow 5 = .ok (.iconst 1, 1) := by decide +kernel
theorem dAL_grow_6 : decode cAL_grow 6 = .ok (.iadd, 1) := by decide +kernel
theorem dAL_grow_7 : decode cAL_grow 7 = .ok (.invokevirtual 69, 3) := by decide +kernel
theorem dAL_grow_10 : decode cAL_grow 10 = .ok (.areturn, 1) := by decide +kernel
theorem dAL_grow_22_0 : decode cAL_grow_22 0 = .ok (.aload_n 0, 1) := by decide +kernel
theorem dAL_grow_22_1 : decode cAL_grow_22 1 = .ok (.getfield 9, 3) := by decide +kernel
theorem dAL_grow_22_4 : decode cAL_grow_22 4 = .ok (.arraylength, 1) := by decide +kernel
theorem dAL_grow_22_5 : decode cAL_grow_22 5 = .ok (.istore_n 2, 1) := by decide +kernel
theorem dAL_grow_22_6 : decode cAL_grow_22 6 = .ok (.iload_n 2, 1) := by decide +kernel
theorem dAL_grow_22_7 : decode cAL_grow_22 7 = .ok (.ifCond .gt 13, 3) := by decide +kernel
theorem dAL_grow_22_10 : decode cAL_grow_22 10 = .ok (.aload_n 0, 1) := by decide +kernel
theorem dAL_grow_22_11 : decode cAL_grow_22 11 = .ok (.getfield 9, 3) := by decide +kernel
theorem dAL_grow_22_14 : decode cAL_grow_22 14 = .ok (.getstatic 39, 3) := by decide +kernel
theorem dAL_grow_22_17 : decode cAL_grow_22 17 = .ok (.if_acmp .eq 28, 3) := by decide +kernel
theorem dAL_grow_22_20 : decode cAL_grow_22 20 = .ok (.iload_n 2, 1) := by decide +kernel
theorem dAL_grow_22_21 : decode cAL_grow_22 21 = .ok (.iload_n 1, 1) := by decide +kernel
theorem dAL_grow_22_22 : decode cAL_grow_22 22 = .ok (.iload_n 2, 1) := by decide +kernel
theorem dAL_grow_22_23 : decode cAL_grow_22 23 = .ok (.isub, 1) := by decide +kernel
theorem dAL_grow_22_24 : decode cAL_grow_22 24 = .ok (.iload_n 2, 1) := by decide +kernel
theorem dAL_grow_22_25 : decode cAL_grow_22 25 = .ok (.iconst 1, 1) := by decide +kernel
theorem dAL_grow_22_26 : decode cAL_grow_22 26 = .ok (.ishr, 1) := by decide +kernel
theorem dAL_grow_22_27 : decode cAL_grow_22 27 = .ok (.invokestatic 73, 3) := by decide +kernel
theorem dAL_grow_22_30 : decode cAL_grow_22 30 = .ok (.istore_n 3, 1) := by decide +kernel
theorem dAL_grow_22_31 : decode cAL_grow_22 31 = .ok (.aload_n 0, 1) := by decide +kernel
theorem dAL_grow_22_32 : decode cAL_grow_22 32 = .ok (.aload_n 0, 1) := by decide +kernel
theorem dAL_grow_22_33 : decode cAL_grow_22 33 = .ok (.getfield 9, 3) := by decide +kernel
theorem dAL_grow_22_36 : decode cAL_grow_22 36 = .ok (.iload_n 3, 1) := by decide +kernel
theorem dAL_grow_22_37 : decode cAL_grow_22 37 = .ok (.invokestatic 66, 3) := by decide +kernel
theorem dAL_grow_22_40 : decode cAL_grow_22 40 = .ok (.dup_x1, 1) := by decide +kernel
theorem dAL_grow_22_41 : decode cAL_grow_22 41 = .ok (.putfield 9, 3) := by decide +kernel
theorem dAL_grow_22_44 : decode cAL_grow_22 44 = .ok (.areturn, 1) := by decide +kernel
theorem dAL_grow_22_45 : decode cAL_grow_22 45 = .ok (.aload_n 0, 1) := by decide +kernel
theorem dAL_grow_22_46 : decode cAL_grow_22 46 = .ok (.bipush 10, 2) := by decide +kernel
theorem dAL_grow_22_48 : decode cAL_grow_22 48 = .ok (.iload_n 1, 1) := by decide +kernel
theorem dAL_grow_22_49 : decode cAL_grow_22 49 = .ok (.invokestatic 79, 3) := by decide +kernel
theorem dAL_grow_22_52 : decode cAL_grow_22 52 = .ok (.anewarray 7, 3) := by decide +kernel
theorem dAL_grow_22_55 : decode cAL_grow_22 55 = .ok (.dup_x1, 1) := by decide +kernel
theorem dAL_grow_22_56 : decode cAL_grow_22 56 = .ok (.putfield 9, 3) := by decide +kernel
theorem dAL_grow_22_59 : decode cAL_grow_22 59 = .ok (.areturn, 1) := by decide +kernel
theorem dAL_init_0 : decode cAL_init 0 = .ok (.aload_n 0, 1) := by decide +kernel
theorem dAL_init_1 : decode cAL_init 1 = .ok (.invokespecial 1, 3) := by decide +kernel
theorem dAL_init_4 : decode cAL_init 4 = .ok (.aload_n 0, 1) := by decide +kernel
theorem dAL_init_5 : decode cAL_init 5 = .ok (.getstatic 39, 3) := by decide +kernel
theorem dAL_init_8 : decode cAL_init 8 = .ok (.putfield 9, 3) := by decide +kernel
theorem dAL_init_11 : decode cAL_init 11 = .ok (.return_, 1) := by decide +kernel
theorem dAL_size_0 : decode cAL_size 0 = .ok (.aload_n 0, 1) := by decide +kernel
theorem dAL_size_1 : decode cAL_size 1 = .ok (.getfield 48, 3) := by decide +kernel
theorem dAL_size_4 : decode cAL_size 4 = .ok (.ireturn, 1) := by decide +kernel
theorem dAR_copyOf_0 : decode cAR_copyOf 0 = .ok (.aload_n 0, 1) := by decide +kernel
theorem dAR_copyOf_1 : decode cAR_copyOf 1 = .ok (.iload_n 1, 1) := by decide +kernel
theorem dAR_copyOf_2 : decode cAR_copyOf 2 = .ok (.aload_n 0, 1) := by decide +kernel
theorem dAR_copyOf_3 : decode cAR_copyOf 3 = .ok (.invokevirtual 86, 3) := by decide +kernel
theorem dAR_copyOf_6 : decode cAR_copyOf 6 = .ok (.invokestatic 300, 3) := by decide +kernel
theorem dAR_copyOf_9 : decode cAR_copyOf 9 = .ok (.areturn, 1) := by decide +kernel
theorem dAR_copyOf_58_0 : decode cAR_copyOf_58 0 = .ok (.aload_n 2, 1) := by decide +kernel
theorem dAR_copyOf_58_1 : decode cAR_copyOf_58 1 = .ok (.ldc 110, 2) := by decide +kernel
theorem dAR_copyOf_58_3 : decode cAR_copyOf_58 3 = .ok (.if_acmp .ne 10, 3) := by decide +kernel
theorem dAR_copyOf_58_6 : decode cAR_copyOf_58 6 = .ok (.iload_n 1, 1) := by decide +kernel
theorem dAR_copyOf_58_7 : decode cAR_copyOf_58 7 = .ok (.anewarray 2, 3) := by decide +kernel
theorem dAR_copyOf_58_10 : decode cAR_copyOf_58 10 = .ok (.goto 14, 3) := by decide +kernel
theorem dAR_copyOf_58_13 : decode cAR_copyOf_58 13 = .ok (.aload_n 2, 1) := by decide +kernel
theorem dAR_copyOf_58_14 : decode cAR_copyOf_58 14 = .ok (.invokevirtual 90, 3) := by decide +kernel
theorem dAR_copyOf_58_17 : decode cAR_copyOf_58 17 = .ok (.iload_n 1, 1) := by decide +kernel
theorem dAR_copyOf_58_18 : decode cAR_copyOf_58 18 = .ok (.invokestatic 95, 3) := by decide +kernel
theorem dAR_copyOf_58_21 : decode cAR_copyOf_58 21 = .ok (.checkcast 110, 3) := by decide +kernel
theorem dAR_copyOf_58_24 : decode cAR_copyOf_58 24 = .ok (.astore_n 3, 1) := by decide +kernel
theorem dAR_copyOf_58_25 : decode cAR_copyOf_58 25 = .ok (.aload_n 0, 1) := by decide +kernel
theorem dAR_copyOf_58_26 : decode cAR_copyOf_58 26 = .ok (.iconst 0, 1) := by decide +kernel
theorem dAR_copyOf_58_27 : decode cAR_copyOf_58 27 = .ok (.aload_n 3, 1) := by decide +kernel
theorem dAR_copyOf_58_28 : decode cAR_copyOf_58 28 = .ok (.iconst 0, 1) := by decide +kernel
theorem dAR_copyOf_58_29 : decode cAR_copyOf_58 29 = .ok (.aload_n 0, 1) := by decide +kernel
theorem dAR_copyOf_58_30 : decode cAR_copyOf_58 30 = .ok (.arraylength, 1) := by decide +kernel
theorem dAR_copyOf_58_31 : decode cAR_copyOf_58 31 = .ok (.iload_n 1, 1) := by decide +kernel
theorem dAR_copyOf_58_32 : decode cAR_copyOf_58 32 = .ok (.invokestatic 304, 3) := by decide +kernel
theorem dAR_copyOf_58_35 : decode cAR_copyOf_58 35 = .ok (.invokestatic 150, 3) := by decide +kernel
theorem dAR_copyOf_58_38 : decode cAR_copyOf_58 38 = .ok (.aload_n 3, 1) := by decide +kernel
theorem dAR_copyOf_58_39 : decode cAR_copyOf_58 39 = .ok (.areturn, 1) := by decide +kernel
theorem dAR_fill_0 : decode cAR_fill 0 = .ok (.iconst 0, 1) := by decide +kernel
theorem dAR_fill_1 : decode cAR_fill 1 = .ok (.istore_n 2, 1) := by decide +kernel
theorem dAR_fill_2 : decode cAR_fill 2 = .ok (.aload_n 0, 1) := by decide +kernel
theorem dAR_fill_3 : decode cAR_fill 3 = .ok (.arraylength, 1) := by decide +kernel
theorem dAR_fill_4 : decode cAR_fill 4 = .ok (.istore_n 3, 1) := by decide +kernel
theorem dAR_fill_5 : decode cAR_fill 5 = .ok (.iload_n 2, 1) := by decide +kernel
theorem dAR_fill_6 : decode cAR_fill 6 = .ok (.iload_n 3, 1) := by decide +kernel
theorem dAR_fill_7 : decode cAR_fill 7 = .ok (.if_icmp .ge 13, 3) := by decide +kernel
theorem dAR_fill_10 : decode cAR_fill 10 = .ok (.aload_n 0, 1) := by decide +kernel
theorem dAR_fill_11 : decode cAR_fill 11 = .ok (.iload_n 2, 1) := by decide +kernel
theorem dAR_fill_12 : decode cAR_fill 12 = .ok (.iload_n 1, 1) := by decide +kernel
theorem dAR_fill_13 : decode cAR_fill 13 = .ok (.iastore, 1) := by decide +kernel
theorem dAR_fill_14 : decode cAR_fill 14 = .ok (.iinc 2 1, 3) := by decide +kernel
theorem dAR_fill_17 : decode cAR_fill 17 = .ok (.goto (-12), 3) := by decide +kernel
theorem dAR_fill_20 : decode cAR_fill 20 = .ok (.return_, 1) := by decide +kernel
theorem dAS_newLength_0 : decode cAS_newLength 0 = .ok (.iload_n 0, 1) := by decide +kernel
theorem dAS_newLength_1 : decode cAS_newLength 1 = .ok (.iload_n 1, 1) := by decide +kernel
theorem dAS_newLength_2 : decode cAS_newLength 2 = .ok (.iload_n 2, 1) := by decide +kernel
theorem dAS_newLength_3 : decode cAS_newLength 3 = .ok (.invokestatic 194, 3) := by decide +kernel
theorem dAS_newLength_6 : decode cAS_newLength 6 = .ok (.iadd, 1) := by decide +kernel
theorem dAS_newLength_7 : decode cAS_newLength 7 = .ok (.istore_n 3, 1) := by decide +kernel
theorem dAS_newLength_8 : decode cAS_newLength 8 = .ok (.iconst 0, 1) := by decide +kernel
theorem dAS_newLength_9 : decode cAS_newLength 9 = .ok (.iload_n 3, 1) := by decide +kernel
theorem dAS_newLength_10 : decode cAS_newLength 10 = .ok (.if_icmp .ge 11, 3) := by decide +kernel
theorem dAS_newLength_13 : decode cAS_newLength 13 = .ok (.iload_n 3, 1) := by decide +kernel
theorem dAS_newLength_14 : decode cAS_newLength 14 = .ok (.ldc 200, 2) := by decide +kernel
theorem dAS_newLength_16 : decode cAS_newLength 16 = .ok (.if_icmp .gt 5, 3) := by decide +kernel
theorem dAS_newLength_19 : decode cAS_newLength 19 = .ok (.iload_n 3, 1) := by decide +kernel
theorem dAS_newLength_20 : decode cAS_newLength 20 = .ok (.ireturn, 1) := by decide +kernel
theorem dAS_newLength_21 : decode cAS_newLength 21 = .ok (.iload_n 0, 1) := by decide +kernel
theorem dAS_newLength_22 : decode cAS_newLength 22 = .ok (.iload_n 1, 1) := by decide +kernel
theorem dAS_newLength_23 : decode cAS_newLength 23 = .ok (.invokestatic 201, 3) := by decide +kernel
theorem dAS_newLength_26 : decode cAS_newLength 26 = .ok (.ireturn, 1) := by decide +kernel
theorem dCE_bottom_0 : decode cCE_bottom 0 = .ok (.aload_n 0, 1) := by decide +kernel
theorem dCE_bottom_1 : decode cCE_bottom 1 = .ok (.getfield 21, 3) := by decide +kernel
theorem dCE_bottom_4 : decode cCE_bottom 4 = .ok (.aload_n 0, 1) := by decide +kernel
theorem dCE_bottom_5 : decode cCE_bottom 5 = .ok (.getfield 27, 3) := by decide +kernel
theorem dCE_bottom_8 : decode cCE_bottom 8 = .ok (.iadd, 1) := by decide +kernel
theorem dCE_bottom_9 : decode cCE_bottom 9 = .ok (.ireturn, 1) := by decide +kernel
theorem dCE_frame_0 : decode cCE_frame 0 = .ok (.aload_n 0, 1) := by decide +kernel
theorem dCE_frame_1 : decode cCE_frame 1 = .ok (.iload_n 1, 1) := by decide +kernel
theorem dCE_frame_2 : decode cCE_frame 2 = .ok (.putfield 9, 3) := by decide +kernel
theorem dCE_frame_5 : decode cCE_frame 5 = .ok (.aload_n 0, 1) := by decide +kernel
theorem dCE_frame_6 : decode cCE_frame 6 = .ok (.iload_n 2, 1) := by decide +kernel
theorem dCE_frame_7 : decode cCE_frame 7 = .ok (.putfield 15, 3) := by decide +kernel
theorem dCE_frame_10 : decode cCE_frame 10 = .ok (.return_, 1) := by decide +kernel
theorem dCE_growTo_0 : decode cCE_growTo 0 = .ok (.aload_n 0, 1) := by decide +kernel
theorem dCE_growTo_1 : decode cCE_growTo 1 = .ok (.getfield 39, 3) := by decide +kernel
theorem dCE_growTo_4 : decode cCE_growTo 4 = .ok (.ifCond .eq 13, 3) := by decide +kernel
theorem dCE_growTo_7 : decode cCE_growTo 7 = .ok (.aload_n 0, 1) := by decide +kernel
theorem dCE_growTo_8 : decode cCE_growTo 8 = .ok (.iload_n 1, 1) := by decide +kernel
theorem dCE_growTo_9 : decode cCE_growTo 9 = .ok (.aload_n 0, 1) := by decide +kernel
theorem dCE_growTo_10 : decode cCE_growTo 10 = .ok (.getfield 21, 3) := by decide +kernel
theorem dCE_growTo_13 : decode cCE_growTo 13 = .ok (.isub, 1) := by decide +kernel
theorem dCE_growTo_14 : decode cCE_growTo 14 = .ok (.putfield 27, 3) := by decide +kernel
theorem dCE_growTo_17 : decode cCE_growTo 17 = .ok (.return_, 1) := by decide +kernel
theorem dCE_init_0 : decode cCE_init 0 = .ok (.aload_n 0, 1) := by decide +kernel
theorem dCE_init_1 : decode cCE_init 1 = .ok (.invokespecial 3, 3) := by decide +kernel
theorem dCE_init_4 : decode cCE_init 4 = .ok (.aload_n 0, 1) := by decide +kernel
theorem dCE_init_5 : decode cCE_init 5 = .ok (.iconst 0, 1) := by decide +kernel
theorem dCE_init_6 : decode cCE_init 6 = .ok (.putfield 9, 3) := by decide +kernel
theorem dCE_init_9 : decode cCE_init 9 = .ok (.aload_n 0, 1) := by decide +kernel
theorem dCE_init_10 : decode cCE_init 10 = .ok (.iconst 0, 1) := by decide +kernel
theorem dCE_init_11 : decode cCE_init 11 = .ok (.putfield 15, 3) := by decide +kernel
theorem dCE_init_14 : decode cCE_init 14 = .ok (.aload_n 0, 1) := by decide +kernel
theorem dCE_init_15 : decode cCE_init 15 = .ok (.iload_n 1, 1) := by decide +kernel
theorem dCE_init_16 : decode cCE_init 16 = .ok (.putfield 18, 3) := by decide +kernel
theorem dCE_init_19 : decode cCE_init 19 = .ok (.aload_n 0, 1) := by decide +kernel
theorem dCE_init_20 : decode cCE_init 20 = .ok (.iload_n 2, 1) := by decide +kernel
theorem dCE_init_21 : decode cCE_init 21 = .ok (.putfield 21, 3) := by decide +kernel
theorem dCE_init_24 : decode cCE_init 24 = .ok (.aload_n 0, 1) := by decide +kernel
theorem dCE_init_25 : decode cCE_init 25 = .ok (.iload_n 3, 1) := by decide +kernel
theorem dCE_init_26 : decode cCE_init 26 = .ok (.putfield 24, 3) := by decide +kernel
theorem dCE_init_29 : decode cCE_init 29 = .ok (.aload_n 0, 1) := by decide +kernel
theorem dCE_init_30 : decode cCE_init 30 = .ok (.iload 4, 2) := by decide +kernel
theorem dCE_init_32 : decode cCE_init 32 = .ok (.putfield 27, 3) := by decide +kernel
theorem dCE_init_35 : decode cCE_init 35 = .ok (.aload_n 0, 1) := by decide +kernel
theorem dCE_init_36 : decode cCE_init 36 = .ok (.iload 5, 2) := by decide +kernel
theorem dCE_init_38 : decode cCE_init 38 = .ok (.putfield 30, 3) := by decide +kernel
theorem dCE_init_41 : decode cCE_init 41 = .ok (.aload_n 0, 1) := by decide +kernel
theorem dCE_init_42 : decode cCE_init 42 = .ok (.iload 6, 2) := by decide +kernel
theorem dCE_init_44 : decode cCE_init 44 = .ok (.putfield 33, 3) := by decide +kernel
theorem dCE_init_47 : decode cCE_init 47 = .ok (.aload_n 0, 1) := by decide +kernel
theorem dCE_init_48 : decode cCE_init 48 = .ok (.iload 7, 2) := by decide +kernel
theorem dCE_init_50 : decode cCE_init 50 = .ok (.putfield 36, 3) := by decide +kernel
theorem dCE_init_53 : decode cCE_init 53 = .ok (.aload_n 0, 1) := by decide +kernel
theorem dCE_init_54 : decode cCE_init 54 = .ok (.iload 4, 2) := by decide +kernel
theorem dCE_init_56 : decode cCE_init 56 = .ok (.ifCond .ne 7, 3) := by decide +kernel
theorem dCE_init_59 : decode cCE_init 59 = .ok (.iconst 1, 1) := by decide +kernel
theorem dCE_init_60 : decode cCE_init 60 = .ok (.goto 4, 3) := by decide +kernel
theorem dCE_init_63 : decode cCE_init 63 = .ok (.iconst 0, 1) := by decide +kernel
theorem dCE_init_64 : decode cCE_init 64 = .ok (.putfield 39, 3) := by decide +kernel
theorem dCE_init_67 : decode cCE_init 67 = .ok (.return_, 1) := by decide +kernel
theorem dCE_prevailsOver_0 : decode cCE_prevailsOver 0 = .ok (.aload_n 1, 1) := by decide +kernel
theorem dCE_prevailsOver_1 : decode cCE_prevailsOver 1 = .ok (.getfield 15, 3) := by decide +kernel
theorem dCE_prevailsOver_4 : decode cCE_prevailsOver 4 = .ok (.iconst 4, 1) := by decide +kernel
theorem dCE_prevailsOver_5 : decode cCE_prevailsOver 5 = .ok (.if_icmp .ne 5, 3) := by decide +kernel
theorem dCE_prevailsOver_8 : decode cCE_prevailsOver 8 = .ok (.iconst 0, 1) := by decide +kernel
theorem dCE_prevailsOver_9 : decode cCE_prevailsOver 9 = .ok (.ireturn, 1) := by decide +kernel
theorem dCE_prevailsOver_10 : decode cCE_prevailsOver 10 = .ok (.aload_n 0, 1) := by decide +kernel
theorem dCE_prevailsOver_11 : decode cCE_prevailsOver 11 = .ok (.getfield 15, 3) := by decide +kernel
theorem dCE_prevailsOver_14 : decode cCE_prevailsOver 14 = .ok (.iconst 4, 1) := by decide +kernel
theorem dCE_prevailsOver_15 : decode cCE_prevailsOver 15 = .ok (.if_icmp .ne 5, 3) := by decide +kernel
theorem dCE_prevailsOver_18 : decode cCE_prevailsOver 18 = .ok (.iconst 1, 1) := by decide +kernel
theorem dCE_prevailsOver_19 : decode cCE_prevailsOver 19 = .ok (.ireturn, 1) := by decide +kernel
theorem dCE_prevailsOver_20 : decode cCE_prevailsOver 20 = .ok (.aload_n 0, 1) := by decide +kernel
theorem dCE_prevailsOver_21 : decode cCE_prevailsOver 21 = .ok (.getfield 9, 3) := by decide +kernel
theorem dCE_prevailsOver_24 : decode cCE_prevailsOver 24 = .ok (.aload_n 1, 1) := by decide +kernel
theorem dCE_prevailsOver_25 : decode cCE_prevailsOver 25 = .ok (.getfield 9, 3) := by decide +kernel
theorem dCE_prevailsOver_28 : decode cCE_prevailsOver 28 = .ok (.if_icmp .eq 20, 3) := by decide +kernel
theorem dCE_prevailsOver_31 : decode cCE_prevailsOver 31 = .ok (.aload_n 0, 1) := by decide +kernel
theorem dCE_prevailsOver_32 : decode cCE_prevailsOver 32 = .ok (.getfield 9, 3) := by decide +kernel
theorem dCE_prevailsOver_35 : decode cCE_prevailsOver 35 = .ok (.aload_n 1, 1) := by decide +kernel
theorem dCE_prevailsOver_36 : decode cCE_prevailsOver 36 = .ok (.getfield 9, 3) := by decide +kernel
theorem dCE_prevailsOver_39 : decode cCE_prevailsOver 39 = .ok (.if_icmp .le 7, 3) := by decide +kernel
theorem dCE_prevailsOver_42 : decode cCE_prevailsOver 42 = .ok (.iconst 1, 1) := by decide +kernel
theorem dCE_prevailsOver_43 : decode cCE_prevailsOver 43 = .ok (.goto 4, 3) := by decide +kernel
theorem dCE_prevailsOver_46 : decode cCE_prevailsOver 46 = .ok (.iconst 0, 1) := by decide +kernel
theorem dCE_prevailsOver_47 : decode cCE_prevailsOver 47 = .ok (.ireturn, 1) := by decide +kernel
theorem dCE_prevailsOver_48 : decode cCE_prevailsOver 48 = .ok (.aload_n 0, 1) := by decide +kernel
theorem dCE_prevailsOver_49 : decode cCE_prevailsOver 49 = .ok (.getfield 15, 3) := by decide +kernel
theorem dCE_prevailsOver_52 : decode cCE_prevailsOver 52 = .ok (.aload_n 1, 1) := by decide +kernel
theorem dCE_prevailsOver_53 : decode cCE_prevailsOver 53 = .ok (.getfield 15, 3) := by decide +kernel
theorem dCE_prevailsOver_56 : decode cCE_prevailsOver 56 = .ok (.if_icmp .le 7, 3) := by decide +kernel
theorem dCE_prevailsOver_59 : decode cCE_prevailsOver 59 = .ok (.iconst 1, 1) := by decide +kernel
theorem dCE_prevailsOver_60 : decode cCE_prevailsOver 60 = .ok (.goto 4, 3) := by decide +kernel
theorem dCE_prevailsOver_63 : decode cCE_prevailsOver 63 = .ok (.iconst 0, 1) := by decide +kernel
theorem dCE_prevailsOver_64 : decode cCE_prevailsOver 64 = .ok (.ireturn, 1) := by decide +kernel
theorem dCE_right_0 : decode cCE_right 0 = .ok (.aload_n 0, 1) := by decide +kernel
theorem dCE_right_1 : decode cCE_right 1 = .ok (.getfield 18, 3) := by decide +kernel
theorem dCE_right_4 : decode cCE_right 4 = .ok (.aload_n 0, 1) := by decide +kernel
theorem dCE_right_5 : decode cCE_right 5 = .ok (.getfield 24, 3) := by decide +kernel
theorem dCE_right_8 : decode cCE_right 8 = .ok (.iadd, 1) := by decide +kernel
theorem dCE_right_9 : decode cCE_right 9 = .ok (.ireturn, 1) := by decide +kernel
theorem dCE_takes_0 : decode cCE_takes 0 = .ok (.aload_n 0, 1) := by decide +kernel
theorem dCE_takes_1 : decode cCE_takes 1 = .ok (.getfield 18, 3) := by decide +kernel
theorem dCE_takes_4 : decode cCE_takes 4 = .ok (.iload_n 1, 1) := by decide +kernel
theorem dCE_takes_5 : decode cCE_takes 5 = .ok (.if_icmp .gt 31, 3) := by decide +kernel
theorem dCE_takes_8 : decode cCE_takes 8 = .ok (.iload_n 1, 1) := by decide +kernel
theorem dCE_takes_9 : decode cCE_takes 9 = .ok (.aload_n 0, 1) := by decide +kernel
theorem dCE_takes_10 : decode cCE_takes 10 = .ok (.invokevirtual 43, 3) := by decide +kernel
theorem dCE_takes_13 : decode cCE_takes 13 = .ok (.if_icmp .ge 23, 3) := by decide +kernel
theorem dCE_takes_16 : decode cCE_takes 16 = .ok (.aload_n 0, 1) := by decide +kernel
theorem dCE_takes_17 : decode cCE_takes 17 = .ok (.getfield 21, 3) := by decide +kernel
theorem dCE_takes_20 : decode cCE_takes 20 = .ok (.iload_n 2, 1) := by decide +kernel
theorem dCE_takes_21 : decode cCE_takes 21 = .ok (.if_icmp .gt 15, 3) := by decide +kernel
theorem dCE_takes_24 : decode cCE_takes 24 = .ok (.iload_n 2, 1) := by decide +kernel
theorem dCE_takes_25 : decode cCE_takes 25 = .ok (.aload_n 0, 1) := by decide +kernel
theorem dCE_takes_26 : decode cCE_takes 26 = .ok (.invokevirtual 47, 3) := by decide +kernel
theorem dCE_takes_29 : decode cCE_takes 29 = .ok (.if_icmp .ge 7, 3) := by decide +kernel
theorem dCE_takes_32 : decode cCE_takes 32 = .ok (.iconst 1, 1) := by decide +kernel
theorem dCE_takes_33 : decode cCE_takes 33 = .ok (.goto 4, 3) := by decide +kernel
theorem dCE_takes_36 : decode cCE_takes 36 = .ok (.iconst 0, 1) := by decide +kernel
theorem dCE_takes_37 : decode cCE_takes 37 = .ok (.ireturn, 1) := by decide +kernel
theorem dGR_beginGroup_0 : decode cGR_beginGroup 0 = .ok (.aload_n 0, 1) := by decide +kernel
theorem dGR_beginGroup_1 : decode cGR_beginGroup 1 = .ok (.getfield 18, 3) := by decide +kernel
theorem dGR_beginGroup_4 : decode cGR_beginGroup 4 = .ok (.bipush 8, 2) := by decide +kernel
theorem dGR_beginGroup_6 : decode cGR_beginGroup 6 = .ok (.if_icmp .ne 5, 3) := by decide +kernel
theorem dGR_beginGroup_9 : decode cGR_beginGroup 9 = .ok (.iconst (-1), 1) := by decide +kernel
theorem dGR_beginGroup_10 : decode cGR_beginGroup 10 = .ok (.ireturn, 1) := by decide +kernel
theorem dGR_beginGroup_11 : decode cGR_beginGroup 11 = .ok (.aload_n 0, 1) := by decide +kernel
theorem dGR_beginGroup_12 : decode cGR_beginGroup 12 = .ok (.dup, 1) := by decide +kernel
theorem dGR_beginGroup_13 : decode cGR_beginGroup 13 = .ok (.getfield 18, 3) := by decide +kernel
theorem dGR_beginGroup_16 : decode cGR_beginGroup 16 = .ok (.iconst 1, 1) := by decide +kernel
theorem dGR_beginGroup_17 : decode cGR_beginGroup 17 = .ok (.iadd, 1) := by decide +kernel
theorem dGR_beginGroup_18 : decode cGR_beginGroup 18 = .ok (.putfield 18, 3) := by decide +kernel
theorem dGR_beginGroup_21 : decode cGR_beginGroup 21 = .ok (.aload_n 0, 1) := by decide +kernel
theorem dGR_beginGroup_22 : decode cGR_beginGroup 22 = .ok (.aload_n 0, 1) := by decide +kernel
theorem dGR_beginGroup_23 : decode cGR_beginGroup 23 = .ok (.getfield 28, 3) := by decide +kernel
theorem dGR_beginGroup_26 : decode cGR_beginGroup 26 = .ok (.putfield 22, 3) := by decide +kernel
theorem dGR_beginGroup_29 : decode cGR_beginGroup 29 = .ok (.aload_n 0, 1) := by decide +kernel
theorem dGR_beginGroup_30 : decode cGR_beginGroup 30 = .ok (.iconst 0, 1) := by decide +kernel
theorem dGR_beginGroup_31 : decode cGR_beginGroup 31 = .ok (.putfield 25, 3) := by decide +kernel
theorem dGR_beginGroup_34 : decode cGR_beginGroup 34 = .ok (.aload_n 0, 1) := by decide +kernel
theorem dGR_beginGroup_35 : decode cGR_beginGroup 35 = .ok (.getfield 18, 3) := by decide +kernel
theorem dGR_beginGroup_38 : decode cGR_beginGroup 38 = .ok (.ireturn, 1) := by decide +kernel
theorem dGR_beginRow_0 : decode cGR_beginRow 0 = .ok (.aload_n 0, 1) := by decide +kernel
theorem dGR_beginRow_1 : decode cGR_beginRow 1 = .ok (.getfield 22, 3) := by decide +kernel
theorem dGR_beginRow_4 : decode cGR_beginRow 4 = .ok (.aload_n 0, 1) := by decide +kernel
theorem dGR_beginRow_5 : decode cGR_beginRow 5 = .ok (.getfield 25, 3) := by decide +kernel
theorem dGR_beginRow_8 : decode cGR_beginRow 8 = .ok (.iadd, 1) := by decide +kernel
theorem dGR_beginRow_9 : decode cGR_beginRow 9 = .ok (.istore_n 1, 1) := by decide +kernel
theorem dGR_beginRow_10 : decode cGR_beginRow 10 = .ok (.iload_n 1, 1) := by decide +kernel
theorem dGR_beginRow_11 : decode cGR_beginRow 11 = .ok (.bipush 12, 2) := by decide +kernel
theorem dGR_beginRow_13 : decode cGR_beginRow 13 = .ok (.if_icmp .lt 5, 3) := by decide +kernel
theorem dGR_beginRow_16 : decode cGR_beginRow 16 = .ok (.iconst (-1), 1) := by decide +kernel
theorem dGR_beginRow_17 : decode cGR_beginRow 17 = .ok (.ireturn, 1) := by decide +kernel
theorem dGR_beginRow_18 : decode cGR_beginRow 18 = .ok (.aload_n 0, 1) := by decide +kernel
theorem dGR_beginRow_19 : decode cGR_beginRow 19 = .ok (.dup, 1) := by decide +kernel
theorem dGR_beginRow_20 : decode cGR_beginRow 20 = .ok (.getfield 25, 3) := by decide +kernel
theorem dGR_beginRow_23 : decode cGR_beginRow 23 = .ok (.iconst 1, 1) := by decide +kernel
theorem dGR_beginRow_24 : decode cGR_beginRow 24 = .ok (.iadd, 1) := by decide +kernel
theorem dGR_beginRow_25 : decode cGR_beginRow 25 = .ok (.putfield 25, 3) := by decide +kernel
theorem dGR_beginRow_28 : decode cGR_beginRow 28 = .ok (.aload_n 0, 1) := by decide +kernel
theorem dGR_beginRow_29 : decode cGR_beginRow 29 = .ok (.iload_n 1, 1) := by decide +kernel
theorem dGR_beginRow_30 : decode cGR_beginRow 30 = .ok (.iconst 1, 1) := by decide +kernel
theorem dGR_beginRow_31 : decode cGR_beginRow 31 = .ok (.iadd, 1) := by decide +kernel
theorem dGR_beginRow_32 : decode cGR_beginRow 32 = .ok (.invokevirtual 37, 3) := by decide +kernel
theorem dGR_beginRow_35 : decode cGR_beginRow 35 = .ok (.iload_n 1, 1) := by decide +kernel
theorem dGR_beginRow_36 : decode cGR_beginRow 36 = .ok (.ireturn, 1) := by decide +kernel
theorem dGR_beginsInColumn_0 : decode cGR_beginsInColumn 0 = .ok (.iconst 0, 1) := by decide +kernel
theorem dGR_beginsInColumn_1 : decode cGR_beginsInColumn 1 = .ok (.istore_n 2, 1) := by decide +kernel
theorem dGR_beginsInColumn_2 : decode cGR_beginsInColumn 2 = .ok (.iload_n 2, 1) := by decide +kernel
theorem dGR_beginsInColumn_3 : decode cGR_beginsInColumn 3 = .ok (.aload_n 0, 1) := by decide +kernel
theorem dGR_beginsInColumn_4 : decode cGR_beginsInColumn 4 = .ok (.getfield 12, 3) := by decide +kernel
theorem dGR_beginsInColumn_7 : decode cGR_beginsInColumn 7 = .ok (.invokevirtual 41, 3) := by decide +kernel
theorem dGR_beginsInColumn_10 : decode cGR_beginsInColumn 10 = .ok (.if_icmp .ge 29, 3) := by decide +kernel
theorem dGR_beginsInColumn_13 : decode cGR_beginsInColumn 13 = .ok (.aload_n 0, 1) := by decide +kernel
theorem dGR_beginsInColumn_14 : decode cGR_beginsInColumn 14 = .ok (.getfield 12, 3) := by decide +kernel
theorem dGR_beginsInColumn_17 : decode cGR_beginsInColumn 17 = .ok (.iload_n 2, 1) := by decide +kernel
theorem dGR_beginsInColumn_18 : decode cGR_beginsInColumn 18 = .ok (.invokevirtual 67, 3) := by decide +kernel
theorem dGR_beginsInColumn_21 : decode cGR_beginsInColumn 21 = .ok (.checkcast 49, 3) := by decide +kernel
theorem dGR_beginsInColumn_24 : decode cGR_beginsInColumn 24 = .ok (.getfield 101, 3) := by decide +kernel
theorem dGR_beginsInColumn_27 : decode cGR_beginsInColumn 27 = .ok (.iload_n 1, 1) := by decide +kernel
theorem dGR_beginsInColumn_28 : decode cGR_beginsInColumn 28 = .ok (.if_icmp .ne 5, 3) := by decide +kernel
theorem dGR_beginsInColumn_31 : decode cGR_beginsInColumn 31 = .ok (.iconst 1, 1) := by decide +kernel
theorem dGR_beginsInColumn_32 : decode cGR_beginsInColumn 32 = .ok (.ireturn, 1) := by decide +kernel
theorem dGR_beginsInColumn_33 : decode cGR_beginsInColumn 33 = .ok (.iinc 2 1, 3) := by decide +kernel
theorem dGR_beginsInColumn_36 : decode cGR_beginsInColumn 36 = .ok (.goto (-34), 3) := by decide +kernel
theorem dGR_beginsInColumn_39 : decode cGR_beginsInColumn 39 = .ok (.iconst 0, 1) := by decide +kernel
theorem dGR_beginsInColumn_40 : decode cGR_beginsInColumn 40 = .ok (.ireturn, 1) := by decide +kernel
theorem dGR_beginsInRow_0 : decode cGR_beginsInRow 0 = .ok (.iconst 0, 1) := by decide +kernel
theorem dGR_beginsInRow_1 : decode cGR_beginsInRow 1 = .ok (.istore_n 2, 1) := by decide +kernel
theorem dGR_beginsInRow_2 : decode cGR_beginsInRow 2 = .ok (.iload_n 2, 1) := by decide +kernel
theorem dGR_beginsInRow_3 : decode cGR_beginsInRow 3 = .ok (.aload_n 0, 1) := by decide +kernel
theorem dGR_beginsInRow_4 : decode cGR_beginsInRow 4 = .ok (.getfield 12, 3) := by decide +kernel
theorem dGR_beginsInRow_7 : decode cGR_beginsInRow 7 = .ok (.invokevirtual 41, 3) := by decide +kernel
theorem dGR_beginsInRow_10 : decode cGR_beginsInRow 10 = .ok (.if_icmp .ge 29, 3) := by decide +kernel
theorem dGR_beginsInRow_13 : decode cGR_beginsInRow 13 = .ok (.aload_n 0, 1) := by decide +kernel
theorem dGR_beginsInRow_14 : decode cGR_beginsInRow 14 = .ok (.getfield 12, 3) := by decide +kernel
theorem dGR_beginsInRow_17 : decode cGR_beginsInRow 17 = .ok (.iload_n 2, 1) := by decide +kernel
theorem dGR_beginsInRow_18 : decode cGR_beginsInRow 18 = .ok (.invokevirtual 67, 3) := by decide +kernel
theorem dGR_beginsInRow_21 : decode cGR_beginsInRow 21 = .ok (.checkcast 49, 3) := by decide +kernel
theorem dGR_beginsInRow_24 : decode cGR_beginsInRow 24 = .ok (.getfield 71, 3) := by decide +kernel
theorem dGR_beginsInRow_27 : decode cGR_beginsInRow 27 = .ok (.iload_n 1, 1) := by decide +kernel
theorem dGR_beginsInRow_28 : decode cGR_beginsInRow 28 = .ok (.if_icmp .ne 5, 3) := by decide +kernel
theorem dGR_beginsInRow_31 : decode cGR_beginsInRow 31 = .ok (.iconst 1, 1) := by decide +kernel
theorem dGR_beginsInRow_32 : decode cGR_beginsInRow 32 = .ok (.ireturn, 1) := by decide +kernel
theorem dGR_beginsInRow_33 : decode cGR_beginsInRow 33 = .ok (.iinc 2 1, 3) := by decide +kernel
theorem dGR_beginsInRow_36 : decode cGR_beginsInRow 36 = .ok (.goto (-34), 3) := by decide +kernel
theorem dGR_beginsInRow_39 : decode cGR_beginsInRow 39 = .ok (.iconst 0, 1) := by decide +kernel
theorem dGR_beginsInRow_40 : decode cGR_beginsInRow 40 = .ok (.ireturn, 1) := by decide +kernel
theorem dGR_cellAt_0 : decode cGR_cellAt 0 = .ok (.aload_n 0, 1) := by decide +kernel
theorem dGR_cellAt_1 : decode cGR_cellAt 1 = .ok (.getfield 12, 3) := by decide +kernel
theorem dGR_cellAt_4 : decode cGR_cellAt 4 = .ok (.iload_n 1, 1) := by decide +kernel
theorem dGR_cellAt_5 : decode cGR_cellAt 5 = .ok (.invokevirtual 67, 3) := by decide +kernel
theorem dGR_cellAt_8 : decode cGR_cellAt 8 = .ok (.checkcast 49, 3) := by decide +kernel
theorem dGR_cellAt_11 : decode cGR_cellAt 11 = .ok (.areturn, 1) := by decide +kernel
theorem dGR_cellCount_0 : decode cGR_cellCount 0 = .ok (.aload_n 0, 1) := by decide +kernel
theorem dGR_cellCount_1 : decode cGR_cellCount 1 = .ok (.getfield 12, 3) := by decide +kernel
theorem dGR_cellCount_4 : decode cGR_cellCount 4 = .ok (.invokevirtual 41, 3) := by decide +kernel
theorem dGR_cellCount_7 : decode cGR_cellCount 7 = .ok (.ireturn, 1) := by decide +kernel
theorem dGR_columnCount_0 : decode cGR_columnCount 0 = .ok (.aload_n 0, 1) := by decide +kernel
theorem dGR_columnCount_1 : decode cGR_columnCount 1 = .ok (.getfield 31, 3) := by decide +kernel
theorem dGR_columnCount_4 : decode cGR_columnCount 4 = .ok (.ireturn, 1) := by decide +kernel
theorem dGR_countEmptyColumns_0 : decode cGR_countEmptyColumns 0 = .ok (.iconst 0, 1) := by decide +kernel
theorem dGR_countEmptyColumns_1 : decode cGR_countEmptyColumns 1 = .ok (.istore_n 1, 1) := by decide +kernel
theorem dGR_countEmptyColumns_2 : decode cGR_countEmptyColumns 2 = .ok (.iconst 0, 1) := by decide +kernel
theorem dGR_countEmptyColumns_3 : decode cGR_countEmptyColumns 3 = .ok (.istore_n 2, 1) := by decide +kernel
theorem dGR_countEmptyColumns_4 : decode cGR_countEmptyColumns 4 = .ok (.iload_n 2, 1) := by decide +kernel
theorem dGR_countEmptyColumns_5 : decode cGR_countEmptyColumns 5 = .ok (.aload_n 0, 1) := by decide +kernel
theorem dGR_countEmptyColumns_6 : decode cGR_countEmptyColumns 6 = .ok (.getfield 31, 3) := by decide +kernel
theorem dGR_countEmptyColumns_9 : decode cGR_countEmptyColumns 9 = .ok (.if_icmp .ge 25, 3) := by decide +kernel
theorem dGR_countEmptyColumns_12 : decode cGR_countEmptyColumns 12 = .ok (.iload_n 1, 1) := by decide +kernel
theorem dGR_countEmptyColumns_13 : decode cGR_countEmptyColumns 13 = .ok (.aload_n 0, 1) := by decide +kernel
theorem dGR_countEmptyColumns_14 : decode cGR_countEmptyColumns 14 = .ok (.iload_n 2, 1) := by decide +kernel
theorem dGR_countEmptyColumns_15 : decode cGR_countEmptyColumns 15 = .ok (.invokevirtual 94, 3) := by decide +kernel
theorem dGR_countEmptyColumns_18 : decode cGR_countEmptyColumns 18 = .ok (.ifCond .eq 7, 3) := by decide +kernel
end
section
theorem dGR_countEmptyColumns_21 : decode cGR_countEmptyColumns 21 = .ok (.iconst 0, 1) := by decide +kernel
theorem dGR_countEmptyColumns_22 : decode cGR_countEmptyColumns 22 = .ok (.goto 4, 3) := by decide +kernel
theorem dGR_countEmptyColumns_25 : decode cGR_countEmptyColumns 25 = .ok (.iconst 1, 1) := by decide +kernel
theorem dGR_countEmptyColumns_26 : decode cGR_countEmptyColumns 26 = .ok (.iadd, 1) := by decide +kernel
theorem dGR_countEmptyColumns_27 : decode cGR_countEmptyColumns 27 = .ok (.istore_n 1, 1) := by decide +kernel
theorem dGR_countEmptyColumns_28 : decode cGR_countEmptyColumns 28 = .ok (.iinc 2 1, 3) := by decide +kernel
theorem dGR_countEmptyColumns_31 : decode cGR_countEmptyColumns 31 = .ok (.goto (-27), 3) := by decide +kernel
theorem dGR_countEmptyColumns_34 : decode cGR_countEmptyColumns 34 = .ok (.iload_n 1, 1) := by decide +kernel
theorem dGR_countEmptyColumns_35 : decode cGR_countEmptyColumns 35 = .ok (.ireturn, 1) := by decide +kernel
theorem dGR_countEmptyRows_0 : decode cGR_countEmptyRows 0 = .ok (.iconst 0, 1) := by decide +kernel
theorem dGR_countEmptyRows_1 : decode cGR_countEmptyRows 1 = .ok (.istore_n 1, 1) := by decide +kernel
theorem dGR_countEmptyRows_2 : decode cGR_countEmptyRows 2 = .ok (.iconst 0, 1) := by decide +kernel
theorem dGR_countEmptyRows_3 : decode cGR_countEmptyRows 3 = .ok (.istore_n 2, 1) := by decide +kernel
theorem dGR_countEmptyRows_4 : decode cGR_countEmptyRows 4 = .ok (.iload_n 2, 1) := by decide +kernel
theorem dGR_countEmptyRows_5 : decode cGR_countEmptyRows 5 = .ok (.aload_n 0, 1) := by decide +kernel
theorem dGR_countEmptyRows_6 : decode cGR_countEmptyRows 6 = .ok (.getfield 28, 3) := by decide +kernel
theorem dGR_countEmptyRows_9 : decode cGR_countEmptyRows 9 = .ok (.if_icmp .ge 25, 3) := by decide +kernel
theorem dGR_countEmptyRows_12 : decode cGR_countEmptyRows 12 = .ok (.iload_n 1, 1) := by decide +kernel
theorem dGR_countEmptyRows_13 : decode cGR_countEmptyRows 13 = .ok (.aload_n 0, 1) := by decide +kernel
theorem dGR_countEmptyRows_14 : decode cGR_countEmptyRows 14 = .ok (.iload_n 2, 1) := by decide +kernel
theorem dGR_countEmptyRows_15 : decode cGR_countEmptyRows 15 = .ok (.invokevirtual 98, 3) := by decide +kernel
theorem dGR_countEmptyRows_18 : decode cGR_countEmptyRows 18 = .ok (.ifCond .eq 7, 3) := by decide +kernel
theorem dGR_countEmptyRows_21 : decode cGR_countEmptyRows 21 = .ok (.iconst 0, 1) := by decide +kernel
theorem dGR_countEmptyRows_22 : decode cGR_countEmptyRows 22 = .ok (.goto 4, 3) := by decide +kernel
theorem dGR_countEmptyRows_25 : decode cGR_countEmptyRows 25 = .ok (.iconst 1, 1) := by decide +kernel
theorem dGR_countEmptyRows_26 : decode cGR_countEmptyRows 26 = .ok (.iadd, 1) := by decide +kernel
theorem dGR_countEmptyRows_27 : decode cGR_countEmptyRows 27 = .ok (.istore_n 1, 1) := by decide +kernel
theorem dGR_countEmptyRows_28 : decode cGR_countEmptyRows 28 = .ok (.iinc 2 1, 3) := by decide +kernel
theorem dGR_countEmptyRows_31 : decode cGR_countEmptyRows 31 = .ok (.goto (-27), 3) := by decide +kernel
theorem dGR_countEmptyRows_34 : decode cGR_countEmptyRows 34 = .ok (.iload_n 1, 1) := by decide +kernel
theorem dGR_countEmptyRows_35 : decode cGR_countEmptyRows 35 = .ok (.ireturn, 1) := by decide +kernel
theorem dGR_countOverlaps_0 : decode cGR_countOverlaps 0 = .ok (.iconst 0, 1) := by decide +kernel
theorem dGR_countOverlaps_1 : decode cGR_countOverlaps 1 = .ok (.istore_n 1, 1) := by decide +kernel
theorem dGR_countOverlaps_2 : decode cGR_countOverlaps 2 = .ok (.iconst 0, 1) := by decide +kernel
theorem dGR_countOverlaps_3 : decode cGR_countOverlaps 3 = .ok (.istore_n 2, 1) := by decide +kernel
theorem dGR_countOverlaps_4 : decode cGR_countOverlaps 4 = .ok (.iload_n 2, 1) := by decide +kernel
theorem dGR_countOverlaps_5 : decode cGR_countOverlaps 5 = .ok (.aload_n 0, 1) := by decide +kernel
theorem dGR_countOverlaps_6 : decode cGR_countOverlaps 6 = .ok (.getfield 12, 3) := by decide +kernel
theorem dGR_countOverlaps_9 : decode cGR_countOverlaps 9 = .ok (.invokevirtual 41, 3) := by decide +kernel
theorem dGR_countOverlaps_12 : decode cGR_countOverlaps 12 = .ok (.if_icmp .ge 41, 3) := by decide +kernel
theorem dGR_countOverlaps_15 : decode cGR_countOverlaps 15 = .ok (.iload_n 1, 1) := by decide +kernel
theorem dGR_countOverlaps_16 : decode cGR_countOverlaps 16 = .ok (.aload_n 0, 1) := by decide +kernel
theorem dGR_countOverlaps_17 : decode cGR_countOverlaps 17 = .ok (.getfield 12, 3) := by decide +kernel
theorem dGR_countOverlaps_20 : decode cGR_countOverlaps 20 = .ok (.iload_n 2, 1) := by decide +kernel
theorem dGR_countOverlaps_21 : decode cGR_countOverlaps 21 = .ok (.invokevirtual 67, 3) := by decide +kernel
theorem dGR_countOverlaps_24 : decode cGR_countOverlaps 24 = .ok (.checkcast 49, 3) := by decide +kernel
theorem dGR_countOverlaps_27 : decode cGR_countOverlaps 27 = .ok (.getfield 85, 3) := by decide +kernel
theorem dGR_countOverlaps_30 : decode cGR_countOverlaps 30 = .ok (.aload_n 0, 1) := by decide +kernel
theorem dGR_countOverlaps_31 : decode cGR_countOverlaps 31 = .ok (.getfield 12, 3) := by decide +kernel
theorem dGR_countOverlaps_34 : decode cGR_countOverlaps 34 = .ok (.iload_n 2, 1) := by decide +kernel
theorem dGR_countOverlaps_35 : decode cGR_countOverlaps 35 = .ok (.invokevirtual 67, 3) := by decide +kernel
theorem dGR_countOverlaps_38 : decode cGR_countOverlaps 38 = .ok (.checkcast 49, 3) := by decide +kernel
theorem dGR_countOverlaps_41 : decode cGR_countOverlaps 41 = .ok (.getfield 88, 3) := by decide +kernel
theorem dGR_countOverlaps_44 : decode cGR_countOverlaps 44 = .ok (.imul, 1) := by decide +kernel
theorem dGR_countOverlaps_45 : decode cGR_countOverlaps 45 = .ok (.iadd, 1) := by decide +kernel
theorem dGR_countOverlaps_46 : decode cGR_countOverlaps 46 = .ok (.istore_n 1, 1) := by decide +kernel
theorem dGR_countOverlaps_47 : decode cGR_countOverlaps 47 = .ok (.iinc 2 1, 3) := by decide +kernel
theorem dGR_countOverlaps_50 : decode cGR_countOverlaps 50 = .ok (.goto (-46), 3) := by decide +kernel
theorem dGR_countOverlaps_53 : decode cGR_countOverlaps 53 = .ok (.iload_n 1, 1) := by decide +kernel
theorem dGR_countOverlaps_54 : decode cGR_countOverlaps 54 = .ok (.aload_n 0, 1) := by decide +kernel
theorem dGR_countOverlaps_55 : decode cGR_countOverlaps 55 = .ok (.invokevirtual 91, 3) := by decide +kernel
theorem dGR_countOverlaps_58 : decode cGR_countOverlaps 58 = .ok (.isub, 1) := by decide +kernel
theorem dGR_countOverlaps_59 : decode cGR_countOverlaps 59 = .ok (.ireturn, 1) := by decide +kernel
theorem dGR_countOwnedSlots_0 : decode cGR_countOwnedSlots 0 = .ok (.iconst 0, 1) := by decide +kernel
theorem dGR_countOwnedSlots_1 : decode cGR_countOwnedSlots 1 = .ok (.istore_n 1, 1) := by decide +kernel
theorem dGR_countOwnedSlots_2 : decode cGR_countOwnedSlots 2 = .ok (.iconst 0, 1) := by decide +kernel
theorem dGR_countOwnedSlots_3 : decode cGR_countOwnedSlots 3 = .ok (.istore_n 2, 1) := by decide +kernel
theorem dGR_countOwnedSlots_4 : decode cGR_countOwnedSlots 4 = .ok (.iload_n 2, 1) := by decide +kernel
theorem dGR_countOwnedSlots_5 : decode cGR_countOwnedSlots 5 = .ok (.aload_n 0, 1) := by decide +kernel
theorem dGR_countOwnedSlots_6 : decode cGR_countOwnedSlots 6 = .ok (.getfield 28, 3) := by decide +kernel
theorem dGR_countOwnedSlots_9 : decode cGR_countOwnedSlots 9 = .ok (.if_icmp .ge 43, 3) := by decide +kernel
theorem dGR_countOwnedSlots_12 : decode cGR_countOwnedSlots 12 = .ok (.iconst 0, 1) := by decide +kernel
theorem dGR_countOwnedSlots_13 : decode cGR_countOwnedSlots 13 = .ok (.istore_n 3, 1) := by decide +kernel
theorem dGR_countOwnedSlots_14 : decode cGR_countOwnedSlots 14 = .ok (.iload_n 3, 1) := by decide +kernel
theorem dGR_countOwnedSlots_15 : decode cGR_countOwnedSlots 15 = .ok (.aload_n 0, 1) := by decide +kernel
theorem dGR_countOwnedSlots_16 : decode cGR_countOwnedSlots 16 = .ok (.getfield 31, 3) := by decide +kernel
theorem dGR_countOwnedSlots_19 : decode cGR_countOwnedSlots 19 = .ok (.if_icmp .ge 27, 3) := by decide +kernel
theorem dGR_countOwnedSlots_22 : decode cGR_countOwnedSlots 22 = .ok (.iload_n 1, 1) := by decide +kernel
theorem dGR_countOwnedSlots_23 : decode cGR_countOwnedSlots 23 = .ok (.aload_n 0, 1) := by decide +kernel
theorem dGR_countOwnedSlots_24 : decode cGR_countOwnedSlots 24 = .ok (.iload_n 3, 1) := by decide +kernel
theorem dGR_countOwnedSlots_25 : decode cGR_countOwnedSlots 25 = .ok (.iload_n 2, 1) := by decide +kernel
theorem dGR_countOwnedSlots_26 : decode cGR_countOwnedSlots 26 = .ok (.invokevirtual 64, 3) := by decide +kernel
theorem dGR_countOwnedSlots_29 : decode cGR_countOwnedSlots 29 = .ok (.iconst (-1), 1) := by decide +kernel
theorem dGR_countOwnedSlots_30 : decode cGR_countOwnedSlots 30 = .ok (.if_icmp .ne 7, 3) := by decide +kernel
theorem dGR_countOwnedSlots_33 : decode cGR_countOwnedSlots 33 = .ok (.iconst 0, 1) := by decide +kernel
theorem dGR_countOwnedSlots_34 : decode cGR_countOwnedSlots 34 = .ok (.goto 4, 3) := by decide +kernel
theorem dGR_countOwnedSlots_37 : decode cGR_countOwnedSlots 37 = .ok (.iconst 1, 1) := by decide +kernel
theorem dGR_countOwnedSlots_38 : decode cGR_countOwnedSlots 38 = .ok (.iadd, 1) := by decide +kernel
theorem dGR_countOwnedSlots_39 : decode cGR_countOwnedSlots 39 = .ok (.istore_n 1, 1) := by decide +kernel
theorem dGR_countOwnedSlots_40 : decode cGR_countOwnedSlots 40 = .ok (.iinc 3 1, 3) := by decide +kernel
theorem dGR_countOwnedSlots_43 : decode cGR_countOwnedSlots 43 = .ok (.goto (-29), 3) := by decide +kernel
theorem dGR_countOwnedSlots_46 : decode cGR_countOwnedSlots 46 = .ok (.iinc 2 1, 3) := by decide +kernel
theorem dGR_countOwnedSlots_49 : decode cGR_countOwnedSlots 49 = .ok (.goto (-45), 3) := by decide +kernel
theorem dGR_countOwnedSlots_52 : decode cGR_countOwnedSlots 52 = .ok (.iload_n 1, 1) := by decide +kernel
theorem dGR_countOwnedSlots_53 : decode cGR_countOwnedSlots 53 = .ok (.ireturn, 1) := by decide +kernel
theorem dGR_drawnBetween_0 : decode cGR_drawnBetween 0 = .ok (.iload_n 1, 1) := by decide +kernel
theorem dGR_drawnBetween_1 : decode cGR_drawnBetween 1 = .ok (.iload_n 2, 1) := by decide +kernel
theorem dGR_drawnBetween_2 : decode cGR_drawnBetween 2 = .ok (.if_icmp .ne 5, 3) := by decide +kernel
theorem dGR_drawnBetween_5 : decode cGR_drawnBetween 5 = .ok (.iconst (-1), 1) := by decide +kernel
theorem dGR_drawnBetween_6 : decode cGR_drawnBetween 6 = .ok (.ireturn, 1) := by decide +kernel
theorem dGR_drawnBetween_7 : decode cGR_drawnBetween 7 = .ok (.aload_n 0, 1) := by decide +kernel
theorem dGR_drawnBetween_8 : decode cGR_drawnBetween 8 = .ok (.iload_n 1, 1) := by decide +kernel
theorem dGR_drawnBetween_9 : decode cGR_drawnBetween 9 = .ok (.invokevirtual 104, 3) := by decide +kernel
theorem dGR_drawnBetween_12 : decode cGR_drawnBetween 12 = .ok (.ifCond .ne 5, 3) := by decide +kernel
theorem dGR_drawnBetween_15 : decode cGR_drawnBetween 15 = .ok (.iload_n 2, 1) := by decide +kernel
theorem dGR_drawnBetween_16 : decode cGR_drawnBetween 16 = .ok (.ireturn, 1) := by decide +kernel
theorem dGR_drawnBetween_17 : decode cGR_drawnBetween 17 = .ok (.aload_n 0, 1) := by decide +kernel
theorem dGR_drawnBetween_18 : decode cGR_drawnBetween 18 = .ok (.iload_n 2, 1) := by decide +kernel
theorem dGR_drawnBetween_19 : decode cGR_drawnBetween 19 = .ok (.invokevirtual 104, 3) := by decide +kernel
theorem dGR_drawnBetween_22 : decode cGR_drawnBetween 22 = .ok (.ifCond .ne 5, 3) := by decide +kernel
theorem dGR_drawnBetween_25 : decode cGR_drawnBetween 25 = .ok (.iload_n 1, 1) := by decide +kernel
theorem dGR_drawnBetween_26 : decode cGR_drawnBetween 26 = .ok (.ireturn, 1) := by decide +kernel
theorem dGR_drawnBetween_27 : decode cGR_drawnBetween 27 = .ok (.aload_n 0, 1) := by decide +kernel
theorem dGR_drawnBetween_28 : decode cGR_drawnBetween 28 = .ok (.iload_n 2, 1) := by decide +kernel
theorem dGR_drawnBetween_29 : decode cGR_drawnBetween 29 = .ok (.invokevirtual 107, 3) := by decide +kernel
theorem dGR_drawnBetween_32 : decode cGR_drawnBetween 32 = .ok (.aload_n 0, 1) := by decide +kernel
theorem dGR_drawnBetween_33 : decode cGR_drawnBetween 33 = .ok (.iload_n 1, 1) := by decide +kernel
theorem dGR_drawnBetween_34 : decode cGR_drawnBetween 34 = .ok (.invokevirtual 107, 3) := by decide +kernel
theorem dGR_drawnBetween_37 : decode cGR_drawnBetween 37 = .ok (.invokevirtual 111, 3) := by decide +kernel
theorem dGR_drawnBetween_40 : decode cGR_drawnBetween 40 = .ok (.ifCond .eq 7, 3) := by decide +kernel
theorem dGR_drawnBetween_43 : decode cGR_drawnBetween 43 = .ok (.iload_n 2, 1) := by decide +kernel
theorem dGR_drawnBetween_44 : decode cGR_drawnBetween 44 = .ok (.goto 4, 3) := by decide +kernel
theorem dGR_drawnBetween_47 : decode cGR_drawnBetween 47 = .ok (.iload_n 1, 1) := by decide +kernel
theorem dGR_drawnBetween_48 : decode cGR_drawnBetween 48 = .ok (.ireturn, 1) := by decide +kernel
theorem dGR_empty_0 : decode cGR_empty 0 = .ok (.aload_n 0, 1) := by decide +kernel
theorem dGR_empty_1 : decode cGR_empty 1 = .ok (.getfield 12, 3) := by decide +kernel
theorem dGR_empty_4 : decode cGR_empty 4 = .ok (.invokevirtual 34, 3) := by decide +kernel
theorem dGR_empty_7 : decode cGR_empty 7 = .ok (.aload_n 0, 1) := by decide +kernel
theorem dGR_empty_8 : decode cGR_empty 8 = .ok (.iconst 1, 1) := by decide +kernel
theorem dGR_empty_9 : decode cGR_empty 9 = .ok (.putfield 18, 3) := by decide +kernel
theorem dGR_empty_12 : decode cGR_empty 12 = .ok (.aload_n 0, 1) := by decide +kernel
theorem dGR_empty_13 : decode cGR_empty 13 = .ok (.iconst 0, 1) := by decide +kernel
theorem dGR_empty_14 : decode cGR_empty 14 = .ok (.putfield 22, 3) := by decide +kernel
theorem dGR_empty_17 : decode cGR_empty 17 = .ok (.aload_n 0, 1) := by decide +kernel
theorem dGR_empty_18 : decode cGR_empty 18 = .ok (.iconst 0, 1) := by decide +kernel
theorem dGR_empty_19 : decode cGR_empty 19 = .ok (.putfield 25, 3) := by decide +kernel
theorem dGR_empty_22 : decode cGR_empty 22 = .ok (.aload_n 0, 1) := by decide +kernel
theorem dGR_empty_23 : decode cGR_empty 23 = .ok (.iconst 0, 1) := by decide +kernel
theorem dGR_empty_24 : decode cGR_empty 24 = .ok (.putfield 28, 3) := by decide +kernel
theorem dGR_empty_27 : decode cGR_empty 27 = .ok (.aload_n 0, 1) := by decide +kernel
theorem dGR_empty_28 : decode cGR_empty 28 = .ok (.iconst 0, 1) := by decide +kernel
theorem dGR_empty_29 : decode cGR_empty 29 = .ok (.putfield 31, 3) := by decide +kernel
theorem dGR_empty_32 : decode cGR_empty 32 = .ok (.return_, 1) := by decide +kernel
theorem dGR_extendGroupTo_0 : decode cGR_extendGroupTo 0 = .ok (.aload_n 0, 1) := by decide +kernel
theorem dGR_extendGroupTo_1 : decode cGR_extendGroupTo 1 = .ok (.aload_n 0, 1) := by decide +kernel
theorem dGR_extendGroupTo_2 : decode cGR_extendGroupTo 2 = .ok (.getfield 28, 3) := by decide +kernel
theorem dGR_extendGroupTo_5 : decode cGR_extendGroupTo 5 = .ok (.iload_n 1, 1) := by decide +kernel
theorem dGR_extendGroupTo_6 : decode cGR_extendGroupTo 6 = .ok (.invokestatic 58, 3) := by decide +kernel
theorem dGR_extendGroupTo_9 : decode cGR_extendGroupTo 9 = .ok (.putfield 28, 3) := by decide +kernel
theorem dGR_extendGroupTo_12 : decode cGR_extendGroupTo 12 = .ok (.iconst 0, 1) := by decide +kernel
theorem dGR_extendGroupTo_13 : decode cGR_extendGroupTo 13 = .ok (.istore_n 2, 1) := by decide +kernel
theorem dGR_extendGroupTo_14 : decode cGR_extendGroupTo 14 = .ok (.iload_n 2, 1) := by decide +kernel
theorem dGR_extendGroupTo_15 : decode cGR_extendGroupTo 15 = .ok (.aload_n 0, 1) := by decide +kernel
theorem dGR_extendGroupTo_16 : decode cGR_extendGroupTo 16 = .ok (.getfield 12, 3) := by decide +kernel
theorem dGR_extendGroupTo_19 : decode cGR_extendGroupTo 19 = .ok (.invokevirtual 41, 3) := by decide +kernel
theorem dGR_extendGroupTo_22 : decode cGR_extendGroupTo 22 = .ok (.if_icmp .ge 40, 3) := by decide +kernel
theorem dGR_extendGroupTo_25 : decode cGR_extendGroupTo 25 = .ok (.aload_n 0, 1) := by decide +kernel
theorem dGR_extendGroupTo_26 : decode cGR_extendGroupTo 26 = .ok (.getfield 12, 3) := by decide +kernel
theorem dGR_extendGroupTo_29 : decode cGR_extendGroupTo 29 = .ok (.iload_n 2, 1) := by decide +kernel
theorem dGR_extendGroupTo_30 : decode cGR_extendGroupTo 30 = .ok (.invokevirtual 67, 3) := by decide +kernel
theorem dGR_extendGroupTo_33 : decode cGR_extendGroupTo 33 = .ok (.checkcast 49, 3) := by decide +kernel
theorem dGR_extendGroupTo_36 : decode cGR_extendGroupTo 36 = .ok (.astore_n 3, 1) := by decide +kernel
theorem dGR_extendGroupTo_37 : decode cGR_extendGroupTo 37 = .ok (.aload_n 3, 1) := by decide +kernel
theorem dGR_extendGroupTo_38 : decode cGR_extendGroupTo 38 = .ok (.getfield 71, 3) := by decide +kernel
theorem dGR_extendGroupTo_41 : decode cGR_extendGroupTo 41 = .ok (.aload_n 0, 1) := by decide +kernel
theorem dGR_extendGroupTo_42 : decode cGR_extendGroupTo 42 = .ok (.getfield 22, 3) := by decide +kernel
theorem dGR_extendGroupTo_45 : decode cGR_extendGroupTo 45 = .ok (.if_icmp .lt 11, 3) := by decide +kernel
theorem dGR_extendGroupTo_48 : decode cGR_extendGroupTo 48 = .ok (.aload_n 3, 1) := by decide +kernel
theorem dGR_extendGroupTo_49 : decode cGR_extendGroupTo 49 = .ok (.aload_n 0, 1) := by decide +kernel
theorem dGR_extendGroupTo_50 : decode cGR_extendGroupTo 50 = .ok (.getfield 28, 3) := by decide +kernel
theorem dGR_extendGroupTo_53 : decode cGR_extendGroupTo 53 = .ok (.invokevirtual 74, 3) := by decide +kernel
theorem dGR_extendGroupTo_56 : decode cGR_extendGroupTo 56 = .ok (.iinc 2 1, 3) := by decide +kernel
theorem dGR_extendGroupTo_59 : decode cGR_extendGroupTo 59 = .ok (.goto (-45), 3) := by decide +kernel
theorem dGR_extendGroupTo_62 : decode cGR_extendGroupTo 62 = .ok (.return_, 1) := by decide +kernel
theorem dGR_firstFreeColumn_0 : decode cGR_firstFreeColumn 0 = .ok (.iconst 0, 1) := by decide +kernel
theorem dGR_firstFreeColumn_1 : decode cGR_firstFreeColumn 1 = .ok (.istore_n 2, 1) := by decide +kernel
theorem dGR_firstFreeColumn_2 : decode cGR_firstFreeColumn 2 = .ok (.iload_n 2, 1) := by decide +kernel
theorem dGR_firstFreeColumn_3 : decode cGR_firstFreeColumn 3 = .ok (.bipush 12, 2) := by decide +kernel
theorem dGR_firstFreeColumn_5 : decode cGR_firstFreeColumn 5 = .ok (.if_icmp .ge 21, 3) := by decide +kernel
theorem dGR_firstFreeColumn_8 : decode cGR_firstFreeColumn 8 = .ok (.aload_n 0, 1) := by decide +kernel
theorem dGR_firstFreeColumn_9 : decode cGR_firstFreeColumn 9 = .ok (.iload_n 2, 1) := by decide +kernel
theorem dGR_firstFreeColumn_10 : decode cGR_firstFreeColumn 10 = .ok (.iload_n 1, 1) := by decide +kernel
theorem dGR_firstFreeColumn_11 : decode cGR_firstFreeColumn 11 = .ok (.invokevirtual 64, 3) := by decide +kernel
theorem dGR_firstFreeColumn_14 : decode cGR_firstFreeColumn 14 = .ok (.iconst (-1), 1) := by decide +kernel
theorem dGR_firstFreeColumn_15 : decode cGR_firstFreeColumn 15 = .ok (.if_icmp .ne 5, 3) := by decide +kernel
theorem dGR_firstFreeColumn_18 : decode cGR_firstFreeColumn 18 = .ok (.iload_n 2, 1) := by decide +kernel
theorem dGR_firstFreeColumn_19 : decode cGR_firstFreeColumn 19 = .ok (.ireturn, 1) := by decide +kernel
theorem dGR_firstFreeColumn_20 : decode cGR_firstFreeColumn 20 = .ok (.iinc 2 1, 3) := by decide +kernel
theorem dGR_firstFreeColumn_23 : decode cGR_firstFreeColumn 23 = .ok (.goto (-21), 3) := by decide +kernel
theorem dGR_firstFreeColumn_26 : decode cGR_firstFreeColumn 26 = .ok (.bipush 12, 2) := by decide +kernel
theorem dGR_firstFreeColumn_28 : decode cGR_firstFreeColumn 28 = .ok (.ireturn, 1) := by decide +kernel
theorem dGR_hasCell_0 : decode cGR_hasCell 0 = .ok (.iconst 0, 1) := by decide +kernel
theorem dGR_hasCell_1 : decode cGR_hasCell 1 = .ok (.iload_n 1, 1) := by decide +kernel
theorem dGR_hasCell_2 : decode cGR_hasCell 2 = .ok (.if_icmp .gt 18, 3) := by decide +kernel
theorem dGR_hasCell_5 : decode cGR_hasCell 5 = .ok (.iload_n 1, 1) := by decide +kernel
theorem dGR_hasCell_6 : decode cGR_hasCell 6 = .ok (.aload_n 0, 1) := by decide +kernel
theorem dGR_hasCell_7 : decode cGR_hasCell 7 = .ok (.getfield 12, 3) := by decide +kernel
theorem dGR_hasCell_10 : decode cGR_hasCell 10 = .ok (.invokevirtual 41, 3) := by decide +kernel
theorem dGR_hasCell_13 : decode cGR_hasCell 13 = .ok (.if_icmp .ge 7, 3) := by decide +kernel
theorem dGR_hasCell_16 : decode cGR_hasCell 16 = .ok (.iconst 1, 1) := by decide +kernel
theorem dGR_hasCell_17 : decode cGR_hasCell 17 = .ok (.goto 4, 3) := by decide +kernel
theorem dGR_hasCell_20 : decode cGR_hasCell 20 = .ok (.iconst 0, 1) := by decide +kernel
theorem dGR_hasCell_21 : decode cGR_hasCell 21 = .ok (.ireturn, 1) := by decide +kernel
theorem dGR_hasSlot_0 : decode cGR_hasSlot 0 = .ok (.iload_n 1, 1) := by decide +kernel
theorem dGR_hasSlot_1 : decode cGR_hasSlot 1 = .ok (.iconst 0, 1) := by decide +kernel
theorem dGR_hasSlot_2 : decode cGR_hasSlot 2 = .ok (.aload_n 0, 1) := by decide +kernel
theorem dGR_hasSlot_3 : decode cGR_hasSlot 3 = .ok (.getfield 31, 3) := by decide +kernel
theorem dGR_hasSlot_6 : decode cGR_hasSlot 6 = .ok (.iconst 1, 1) := by decide +kernel
theorem dGR_hasSlot_7 : decode cGR_hasSlot 7 = .ok (.isub, 1) := by decide +kernel
theorem dGR_hasSlot_8 : decode cGR_hasSlot 8 = .ok (.invokestatic 77, 3) := by decide +kernel
theorem dGR_hasSlot_11 : decode cGR_hasSlot 11 = .ok (.ifCond .eq 21, 3) := by decide +kernel
theorem dGR_hasSlot_14 : decode cGR_hasSlot 14 = .ok (.iload_n 2, 1) := by decide +kernel
theorem dGR_hasSlot_15 : decode cGR_hasSlot 15 = .ok (.iconst 0, 1) := by decide +kernel
theorem dGR_hasSlot_16 : decode cGR_hasSlot 16 = .ok (.aload_n 0, 1) := by decide +kernel
theorem dGR_hasSlot_17 : decode cGR_hasSlot 17 = .ok (.getfield 28, 3) := by decide +kernel
theorem dGR_hasSlot_20 : decode cGR_hasSlot 20 = .ok (.iconst 1, 1) := by decide +kernel
theorem dGR_hasSlot_21 : decode cGR_hasSlot 21 = .ok (.isub, 1) := by decide +kernel
theorem dGR_hasSlot_22 : decode cGR_hasSlot 22 = .ok (.invokestatic 77, 3) := by decide +kernel
theorem dGR_hasSlot_25 : decode cGR_hasSlot 25 = .ok (.ifCond .eq 7, 3) := by decide +kernel
theorem dGR_hasSlot_28 : decode cGR_hasSlot 28 = .ok (.iconst 1, 1) := by decide +kernel
theorem dGR_hasSlot_29 : decode cGR_hasSlot 29 = .ok (.goto 4, 3) := by decide +kernel
theorem dGR_hasSlot_32 : decode cGR_hasSlot 32 = .ok (.iconst 0, 1) := by decide +kernel
theorem dGR_hasSlot_33 : decode cGR_hasSlot 33 = .ok (.ireturn, 1) := by decide +kernel
theorem dGR_init_0 : decode cGR_init 0 = .ok (.aload_n 0, 1) := by decide +kernel
theorem dGR_init_1 : decode cGR_init 1 = .ok (.invokespecial 3, 3) := by decide +kernel
theorem dGR_init_4 : decode cGR_init 4 = .ok (.aload_n 0, 1) := by decide +kernel
theorem dGR_init_5 : decode cGR_init 5 = .ok (.new 9, 3) := by decide +kernel
theorem dGR_init_8 : decode cGR_init 8 = .ok (.dup, 1) := by decide +kernel
theorem dGR_init_9 : decode cGR_init 9 = .ok (.invokespecial 11, 3) := by decide +kernel
theorem dGR_init_12 : decode cGR_init 12 = .ok (.putfield 12, 3) := by decide +kernel
theorem dGR_init_15 : decode cGR_init 15 = .ok (.aload_n 0, 1) := by decide +kernel
theorem dGR_init_16 : decode cGR_init 16 = .ok (.iconst 1, 1) := by decide +kernel
theorem dGR_init_17 : decode cGR_init 17 = .ok (.putfield 18, 3) := by decide +kernel
theorem dGR_init_20 : decode cGR_init 20 = .ok (.aload_n 0, 1) := by decide +kernel
theorem dGR_init_21 : decode cGR_init 21 = .ok (.iconst 0, 1) := by decide +kernel
theorem dGR_init_22 : decode cGR_init 22 = .ok (.putfield 22, 3) := by decide +kernel
theorem dGR_init_25 : decode cGR_init 25 = .ok (.aload_n 0, 1) := by decide +kernel
theorem dGR_init_26 : decode cGR_init 26 = .ok (.iconst 0, 1) := by decide +kernel
theorem dGR_init_27 : decode cGR_init 27 = .ok (.putfield 25, 3) := by decide +kernel
theorem dGR_init_30 : decode cGR_init 30 = .ok (.aload_n 0, 1) := by decide +kernel
theorem dGR_init_31 : decode cGR_init 31 = .ok (.iconst 0, 1) := by decide +kernel
theorem dGR_init_32 : decode cGR_init 32 = .ok (.putfield 28, 3) := by decide +kernel
theorem dGR_init_35 : decode cGR_init 35 = .ok (.aload_n 0, 1) := by decide +kernel
theorem dGR_init_36 : decode cGR_init 36 = .ok (.iconst 0, 1) := by decide +kernel
theorem dGR_init_37 : decode cGR_init 37 = .ok (.putfield 31, 3) := by decide +kernel
theorem dGR_init_40 : decode cGR_init 40 = .ok (.return_, 1) := by decide +kernel
theorem dGR_ownerOf_0 : decode cGR_ownerOf 0 = .ok (.iconst 0, 1) := by decide +kernel
theorem dGR_ownerOf_1 : decode cGR_ownerOf 1 = .ok (.istore_n 3, 1) := by decide +kernel
theorem dGR_ownerOf_2 : decode cGR_ownerOf 2 = .ok (.iload_n 3, 1) := by decide +kernel
theorem dGR_ownerOf_3 : decode cGR_ownerOf 3 = .ok (.aload_n 0, 1) := by decide +kernel
theorem dGR_ownerOf_4 : decode cGR_ownerOf 4 = .ok (.getfield 12, 3) := by decide +kernel
theorem dGR_ownerOf_7 : decode cGR_ownerOf 7 = .ok (.invokevirtual 41, 3) := by decide +kernel
theorem dGR_ownerOf_10 : decode cGR_ownerOf 10 = .ok (.if_icmp .ge 30, 3) := by decide +kernel
theorem dGR_ownerOf_13 : decode cGR_ownerOf 13 = .ok (.aload_n 0, 1) := by decide +kernel
theorem dGR_ownerOf_14 : decode cGR_ownerOf 14 = .ok (.getfield 12, 3) := by decide +kernel
theorem dGR_ownerOf_17 : decode cGR_ownerOf 17 = .ok (.iload_n 3, 1) := by decide +kernel
theorem dGR_ownerOf_18 : decode cGR_ownerOf 18 = .ok (.invokevirtual 67, 3) := by decide +kernel
theorem dGR_ownerOf_21 : decode cGR_ownerOf 21 = .ok (.checkcast 49, 3) := by decide +kernel
theorem dGR_ownerOf_24 : decode cGR_ownerOf 24 = .ok (.iload_n 1, 1) := by decide +kernel
theorem dGR_ownerOf_25 : decode cGR_ownerOf 25 = .ok (.iload_n 2, 1) := by decide +kernel
theorem dGR_ownerOf_26 : decode cGR_ownerOf 26 = .ok (.invokevirtual 81, 3) := by decide +kernel
theorem dGR_ownerOf_29 : decode cGR_ownerOf 29 = .ok (.ifCond .eq 5, 3) := by decide +kernel
theorem dGR_ownerOf_32 : decode cGR_ownerOf 32 = .ok (.iload_n 3, 1) := by decide +kernel
theorem dGR_ownerOf_33 : decode cGR_ownerOf 33 = .ok (.ireturn, 1) := by decide +kernel
theorem dGR_ownerOf_34 : decode cGR_ownerOf 34 = .ok (.iinc 3 1, 3) := by decide +kernel
theorem dGR_ownerOf_37 : decode cGR_ownerOf 37 = .ok (.goto (-35), 3) := by decide +kernel
theorem dGR_ownerOf_40 : decode cGR_ownerOf 40 = .ok (.iconst (-1), 1) := by decide +kernel
theorem dGR_ownerOf_41 : decode cGR_ownerOf 41 = .ok (.ireturn, 1) := by decide +kernel
theorem dGR_putCell_0 : decode cGR_putCell 0 = .ok (.aload_n 0, 1) := by decide +kernel
theorem dGR_putCell_1 : decode cGR_putCell 1 = .ok (.getfield 25, 3) := by decide +kernel
theorem dGR_putCell_4 : decode cGR_putCell 4 = .ok (.ifCond .eq 15, 3) := by decide +kernel
theorem dGR_putCell_7 : decode cGR_putCell 7 = .ok (.aload_n 0, 1) := by decide +kernel
theorem dGR_putCell_8 : decode cGR_putCell 8 = .ok (.getfield 12, 3) := by decide +kernel
theorem dGR_putCell_11 : decode cGR_putCell 11 = .ok (.invokevirtual 41, 3) := by decide +kernel
theorem dGR_putCell_14 : decode cGR_putCell 14 = .ok (.bipush 40, 2) := by decide +kernel
theorem dGR_putCell_16 : decode cGR_putCell 16 = .ok (.if_icmp .lt 5, 3) := by decide +kernel
theorem dGR_putCell_19 : decode cGR_putCell 19 = .ok (.iconst (-1), 1) := by decide +kernel
theorem dGR_putCell_20 : decode cGR_putCell 20 = .ok (.ireturn, 1) := by decide +kernel
theorem dGR_putCell_21 : decode cGR_putCell 21 = .ok (.aload_n 0, 1) := by decide +kernel
theorem dGR_putCell_22 : decode cGR_putCell 22 = .ok (.getfield 22, 3) := by decide +kernel
theorem dGR_putCell_25 : decode cGR_putCell 25 = .ok (.aload_n 0, 1) := by decide +kernel
theorem dGR_putCell_26 : decode cGR_putCell 26 = .ok (.getfield 25, 3) := by decide +kernel
theorem dGR_putCell_29 : decode cGR_putCell 29 = .ok (.iadd, 1) := by decide +kernel
theorem dGR_putCell_30 : decode cGR_putCell 30 = .ok (.iconst 1, 1) := by decide +kernel
theorem dGR_putCell_31 : decode cGR_putCell 31 = .ok (.isub, 1) := by decide +kernel
theorem dGR_putCell_32 : decode cGR_putCell 32 = .ok (.istore 6, 2) := by decide +kernel
theorem dGR_putCell_34 : decode cGR_putCell 34 = .ok (.aload_n 0, 1) := by decide +kernel
theorem dGR_putCell_35 : decode cGR_putCell 35 = .ok (.iload 6, 2) := by decide +kernel
theorem dGR_putCell_37 : decode cGR_putCell 37 = .ok (.invokevirtual 45, 3) := by decide +kernel
theorem dGR_putCell_40 : decode cGR_putCell 40 = .ok (.istore 7, 2) := by decide +kernel
theorem dGR_putCell_42 : decode cGR_putCell 42 = .ok (.iload 7, 2) := by decide +kernel
theorem dGR_putCell_44 : decode cGR_putCell 44 = .ok (.iload_n 1, 1) := by decide +kernel
theorem dGR_putCell_45 : decode cGR_putCell 45 = .ok (.iadd, 1) := by decide +kernel
theorem dGR_putCell_46 : decode cGR_putCell 46 = .ok (.bipush 12, 2) := by decide +kernel
theorem dGR_putCell_48 : decode cGR_putCell 48 = .ok (.if_icmp .gt 12, 3) := by decide +kernel
theorem dGR_putCell_51 : decode cGR_putCell 51 = .ok (.iload 6, 2) := by decide +kernel
theorem dGR_putCell_53 : decode cGR_putCell 53 = .ok (.iload_n 2, 1) := by decide +kernel
theorem dGR_putCell_54 : decode cGR_putCell 54 = .ok (.iadd, 1) := by decide +kernel
theorem dGR_putCell_55 : decode cGR_putCell 55 = .ok (.bipush 12, 2) := by decide +kernel
theorem dGR_putCell_57 : decode cGR_putCell 57 = .ok (.if_icmp .le 5, 3) := by decide +kernel
theorem dGR_putCell_60 : decode cGR_putCell 60 = .ok (.iconst (-1), 1) := by decide +kernel
theorem dGR_putCell_61 : decode cGR_putCell 61 = .ok (.ireturn, 1) := by decide +kernel
theorem dGR_putCell_62 : decode cGR_putCell 62 = .ok (.aload_n 0, 1) := by decide +kernel
theorem dGR_putCell_63 : decode cGR_putCell 63 = .ok (.getfield 12, 3) := by decide +kernel
theorem dGR_putCell_66 : decode cGR_putCell 66 = .ok (.new 49, 3) := by decide +kernel
theorem dGR_putCell_69 : decode cGR_putCell 69 = .ok (.dup, 1) := by decide +kernel
theorem dGR_putCell_70 : decode cGR_putCell 70 = .ok (.iload 7, 2) := by decide +kernel
theorem dGR_putCell_72 : decode cGR_putCell 72 = .ok (.iload 6, 2) := by decide +kernel
theorem dGR_putCell_74 : decode cGR_putCell 74 = .ok (.iload_n 1, 1) := by decide +kernel
theorem dGR_putCell_75 : decode cGR_putCell 75 = .ok (.iload_n 2, 1) := by decide +kernel
theorem dGR_putCell_76 : decode cGR_putCell 76 = .ok (.iload_n 3, 1) := by decide +kernel
theorem dGR_putCell_77 : decode cGR_putCell 77 = .ok (.iload 4, 2) := by decide +kernel
theorem dGR_putCell_79 : decode cGR_putCell 79 = .ok (.iload 5, 2) := by decide +kernel
theorem dGR_putCell_81 : decode cGR_putCell 81 = .ok (.invokespecial 51, 3) := by decide +kernel
theorem dGR_putCell_84 : decode cGR_putCell 84 = .ok (.invokevirtual 54, 3) := by decide +kernel
theorem dGR_putCell_87 : decode cGR_putCell 87 = .ok (.pop, 1) := by decide +kernel
theorem dGR_putCell_88 : decode cGR_putCell 88 = .ok (.aload_n 0, 1) := by decide +kernel
theorem dGR_putCell_89 : decode cGR_putCell 89 = .ok (.aload_n 0, 1) := by decide +kernel
theorem dGR_putCell_90 : decode cGR_putCell 90 = .ok (.getfield 31, 3) := by decide +kernel
theorem dGR_putCell_93 : decode cGR_putCell 93 = .ok (.iload 7, 2) := by decide +kernel
theorem dGR_putCell_95 : decode cGR_putCell 95 = .ok (.iload_n 1, 1) := by decide +kernel
theorem dGR_putCell_96 : decode cGR_putCell 96 = .ok (.iadd, 1) := by decide +kernel
theorem dGR_putCell_97 : decode cGR_putCell 97 = .ok (.invokestatic 58, 3) := by decide +kernel
theorem dGR_putCell_100 : decode cGR_putCell 100 = .ok (.putfield 31, 3) := by decide +kernel
theorem dGR_putCell_103 : decode cGR_putCell 103 = .ok (.aload_n 0, 1) := by decide +kernel
theorem dGR_putCell_104 : decode cGR_putCell 104 = .ok (.iload 6, 2) := by decide +kernel
theorem dGR_putCell_106 : decode cGR_putCell 106 = .ok (.iload_n 2, 1) := by decide +kernel
theorem dGR_putCell_107 : decode cGR_putCell 107 = .ok (.iadd, 1) := by decide +kernel
theorem dGR_putCell_108 : decode cGR_putCell 108 = .ok (.invokevirtual 37, 3) := by decide +kernel
theorem dGR_putCell_111 : decode cGR_putCell 111 = .ok (.aload_n 0, 1) := by decide +kernel
theorem dGR_putCell_112 : decode cGR_putCell 112 = .ok (.getfield 12, 3) := by decide +kernel
theorem dGR_putCell_115 : decode cGR_putCell 115 = .ok (.invokevirtual 41, 3) := by decide +kernel
theorem dGR_putCell_118 : decode cGR_putCell 118 = .ok (.iconst 1, 1) := by decide +kernel
theorem dGR_putCell_119 : decode cGR_putCell 119 = .ok (.isub, 1) := by decide +kernel
theorem dGR_putCell_120 : decode cGR_putCell 120 = .ok (.ireturn, 1) := by decide +kernel
theorem dGR_rowCount_0 : decode cGR_rowCount 0 = .ok (.aload_n 0, 1) := by decide +kernel
theorem dGR_rowCount_1 : decode cGR_rowCount 1 = .ok (.getfield 28, 3) := by decide +kernel
theorem dGR_rowCount_4 : decode cGR_rowCount 4 = .ok (.ireturn, 1) := by decide +kernel
theorem dHE_init_0 : decode cHE_init 0 = .ok (.aload_n 0, 1) := by decide +kernel
theorem dHE_init_1 : decode cHE_init 1 = .ok (.invokespecial 3, 3) := by decide +kernel
theorem dHE_init_4 : decode cHE_init 4 = .ok (.aload_n 0, 1) := by decide +kernel
theorem dHE_init_5 : decode cHE_init 5 = .ok (.new 9, 3) := by decide +kernel
theorem dHE_init_8 : decode cHE_init 8 = .ok (.dup, 1) := by decide +kernel
theorem dHE_init_9 : decode cHE_init 9 = .ok (.invokespecial 11, 3) := by decide +kernel
theorem dHE_init_12 : decode cHE_init 12 = .ok (.putfield 12, 3) := by decide +kernel
theorem dHE_init_15 : decode cHE_init 15 = .ok (.return_, 1) := by decide +kernel
theorem dHE_measure_0 : decode cHE_measure 0 = .ok (.aload_n 0, 1) := by decide +kernel
theorem dHE_measure_1 : decode cHE_measure 1 = .ok (.getfield 12, 3) := by decide +kernel
theorem dHE_measure_4 : decode cHE_measure 4 = .ok (.invokevirtual 18, 3) := by decide +kernel
theorem dHE_measure_7 : decode cHE_measure 7 = .ok (.iconst 1, 1) := by decide +kernel
theorem dHE_measure_8 : decode cHE_measure 8 = .ok (.istore_n 3, 1) := by decide +kernel
theorem dHE_measure_9 : decode cHE_measure 9 = .ok (.iload_n 3, 1) := by decide +kernel
theorem dHE_measure_10 : decode cHE_measure 10 = .ok (.bipush 12, 2) := by decide +kernel
theorem dHE_measure_12 : decode cHE_measure 12 = .ok (.if_icmp .gt 71, 3) := by decide +kernel
theorem dHE_measure_15 : decode cHE_measure 15 = .ok (.iconst 0, 1) := by decide +kernel
theorem dHE_measure_16 : decode cHE_measure 16 = .ok (.istore 4, 2) := by decide +kernel
theorem dHE_measure_18 : decode cHE_measure 18 = .ok (.iload 4, 2) := by decide +kernel
theorem dHE_measure_20 : decode cHE_measure 20 = .ok (.aload_n 1, 1) := by decide +kernel
theorem dHE_measure_21 : decode cHE_measure 21 = .ok (.invokevirtual 21, 3) := by decide +kernel
theorem dHE_measure_24 : decode cHE_measure 24 = .ok (.if_icmp .ge 53, 3) := by decide +kernel
theorem dHE_measure_27 : decode cHE_measure 27 = .ok (.aload_n 1, 1) := by decide +kernel
theorem dHE_measure_28 : decode cHE_measure 28 = .ok (.iload 4, 2) := by decide +kernel
theorem dHE_measure_30 : decode cHE_measure 30 = .ok (.invokevirtual 27, 3) := by decide +kernel
theorem dHE_measure_33 : decode cHE_measure 33 = .ok (.astore 5, 2) := by decide +kernel
theorem dHE_measure_35 : decode cHE_measure 35 = .ok (.aload 5, 2) := by decide +kernel
theorem dHE_measure_37 : decode cHE_measure 37 = .ok (.getfield 31, 3) := by decide +kernel
theorem dHE_measure_40 : decode cHE_measure 40 = .ok (.iload_n 3, 1) := by decide +kernel
theorem dHE_measure_41 : decode cHE_measure 41 = .ok (.if_icmp .ne 30, 3) := by decide +kernel
theorem dHE_measure_44 : decode cHE_measure 44 = .ok (.aload_n 0, 1) := by decide +kernel
theorem dHE_measure_45 : decode cHE_measure 45 = .ok (.getfield 12, 3) := by decide +kernel
theorem dHE_measure_48 : decode cHE_measure 48 = .ok (.aload 5, 2) := by decide +kernel
theorem dHE_measure_50 : decode cHE_measure 50 = .ok (.getfield 37, 3) := by decide +kernel
theorem dHE_measure_53 : decode cHE_measure 53 = .ok (.iload_n 2, 1) := by decide +kernel
theorem dHE_measure_54 : decode cHE_measure 54 = .ok (.aload_n 0, 1) := by decide +kernel
theorem dHE_measure_55 : decode cHE_measure 55 = .ok (.getfield 12, 3) := by decide +kernel
theorem dHE_measure_58 : decode cHE_measure 58 = .ok (.aload 5, 2) := by decide +kernel
theorem dHE_measure_60 : decode cHE_measure 60 = .ok (.getfield 40, 3) := by decide +kernel
theorem dHE_measure_63 : decode cHE_measure 63 = .ok (.aload 5, 2) := by decide +kernel
theorem dHE_measure_65 : decode cHE_measure 65 = .ok (.invokevirtual 43, 3) := by decide +kernel
theorem dHE_measure_68 : decode cHE_measure 68 = .ok (.invokevirtual 46, 3) := by decide +kernel
theorem dHE_measure_71 : decode cHE_measure 71 = .ok (.iinc 4 1, 3) := by decide +kernel
theorem dHE_measure_74 : decode cHE_measure 74 = .ok (.goto (-56), 3) := by decide +kernel
theorem dHE_measure_77 : decode cHE_measure 77 = .ok (.iinc 3 1, 3) := by decide +kernel
theorem dHE_measure_80 : decode cHE_measure 80 = .ok (.goto (-71), 3) := by decide +kernel
theorem dHE_measure_83 : decode cHE_measure 83 = .ok (.return_, 1) := by decide +kernel
theorem dLI_copyOf_0 : decode cLI_copyOf 0 = .ok (.aload_n 1, 1) := by decide +kernel
theorem dLI_copyOf_1 : decode cLI_copyOf 1 = .ok (.getfield 9, 3) := by decide +kernel
theorem dLI_copyOf_4 : decode cLI_copyOf 4 = .ok (.iconst 0, 1) := by decide +kernel
theorem dLI_copyOf_5 : decode cLI_copyOf 5 = .ok (.aload_n 0, 1) := by decide +kernel
theorem dLI_copyOf_6 : decode cLI_copyOf 6 = .ok (.getfield 9, 3) := by decide +kernel
theorem dLI_copyOf_9 : decode cLI_copyOf 9 = .ok (.iconst 0, 1) := by decide +kernel
theorem dLI_copyOf_10 : decode cLI_copyOf 10 = .ok (.bipush 12, 2) := by decide +kernel
theorem dLI_copyOf_12 : decode cLI_copyOf 12 = .ok (.invokestatic 27, 3) := by decide +kernel
theorem dLI_copyOf_15 : decode cLI_copyOf 15 = .ok (.return_, 1) := by decide +kernel
theorem dLI_init_0 : decode cLI_init 0 = .ok (.aload_n 0, 1) := by decide +kernel
theorem dLI_init_1 : decode cLI_init 1 = .ok (.invokespecial 3, 3) := by decide +kernel
theorem dLI_init_4 : decode cLI_init 4 = .ok (.aload_n 0, 1) := by decide +kernel
theorem dLI_init_5 : decode cLI_init 5 = .ok (.bipush 12, 2) := by decide +kernel
theorem dLI_init_7 : decode cLI_init 7 = .ok (.newarray .int, 2) := by decide +kernel
theorem dLI_init_9 : decode cLI_init 9 = .ok (.putfield 9, 3) := by decide +kernel
theorem dLI_init_12 : decode cLI_init 12 = .ok (.return_, 1) := by decide +kernel
theorem dLI_raiseTo_0 : decode cLI_raiseTo 0 = .ok (.iload_n 2, 1) := by decide +kernel
theorem dLI_raiseTo_1 : decode cLI_raiseTo 1 = .ok (.istore 4, 2) := by decide +kernel
theorem dLI_raiseTo_3 : decode cLI_raiseTo 3 = .ok (.iload 4, 2) := by decide +kernel
theorem dLI_raiseTo_5 : decode cLI_raiseTo 5 = .ok (.iload_n 3, 1) := by decide +kernel
theorem dLI_raiseTo_6 : decode cLI_raiseTo 6 = .ok (.if_icmp .ge 33, 3) := by decide +kernel
theorem dLI_raiseTo_9 : decode cLI_raiseTo 9 = .ok (.aload_n 0, 1) := by decide +kernel
theorem dLI_raiseTo_10 : decode cLI_raiseTo 10 = .ok (.getfield 9, 3) := by decide +kernel
theorem dLI_raiseTo_13 : decode cLI_raiseTo 13 = .ok (.iload 4, 2) := by decide +kernel
theorem dLI_raiseTo_15 : decode cLI_raiseTo 15 = .ok (.aload_n 0, 1) := by decide +kernel
theorem dLI_raiseTo_16 : decode cLI_raiseTo 16 = .ok (.getfield 9, 3) := by decide +kernel
theorem dLI_raiseTo_19 : decode cLI_raiseTo 19 = .ok (.iload 4, 2) := by decide +kernel
theorem dLI_raiseTo_21 : decode cLI_raiseTo 21 = .ok (.iaload, 1) := by decide +kernel
theorem dLI_raiseTo_22 : decode cLI_raiseTo 22 = .ok (.aload_n 1, 1) := by decide +kernel
theorem dLI_raiseTo_23 : decode cLI_raiseTo 23 = .ok (.getfield 9, 3) := by decide +kernel
theorem dLI_raiseTo_26 : decode cLI_raiseTo 26 = .ok (.iload 4, 2) := by decide +kernel
theorem dLI_raiseTo_28 : decode cLI_raiseTo 28 = .ok (.iaload, 1) := by decide +kernel
theorem dLI_raiseTo_29 : decode cLI_raiseTo 29 = .ok (.invokestatic 21, 3) := by decide +kernel
theorem dLI_raiseTo_32 : decode cLI_raiseTo 32 = .ok (.iastore, 1) := by decide +kernel
theorem dLI_raiseTo_33 : decode cLI_raiseTo 33 = .ok (.iinc 4 1, 3) := by decide +kernel
theorem dLI_raiseTo_36 : decode cLI_raiseTo 36 = .ok (.goto (-33), 3) := by decide +kernel
theorem dLI_raiseTo_39 : decode cLI_raiseTo 39 = .ok (.return_, 1) := by decide +kernel
theorem dLI_reach_0 : decode cLI_reach 0 = .ok (.aload_n 0, 1) := by decide +kernel
theorem dLI_reach_1 : decode cLI_reach 1 = .ok (.iload_n 1, 1) := by decide +kernel
theorem dLI_reach_2 : decode cLI_reach 2 = .ok (.iload_n 2, 1) := by decide +kernel
theorem dLI_reach_3 : decode cLI_reach 3 = .ok (.invokevirtual 33, 3) := by decide +kernel
theorem dLI_reach_6 : decode cLI_reach 6 = .ok (.iload_n 3, 1) := by decide +kernel
theorem dLI_reach_7 : decode cLI_reach 7 = .ok (.iload_n 2, 1) := by decide +kernel
theorem dLI_reach_8 : decode cLI_reach 8 = .ok (.iload_n 1, 1) := by decide +kernel
theorem dLI_reach_9 : decode cLI_reach 9 = .ok (.isub, 1) := by decide +kernel
end
section
theorem dLI_reach_10 : decode cLI_reach 10 = .ok (.iconst 1, 1) := by decide +kernel
theorem dLI_reach_11 : decode cLI_reach 11 = .ok (.isub, 1) := by decide +kernel
theorem dLI_reach_12 : decode cLI_reach 12 = .ok (.imul, 1) := by decide +kernel
theorem dLI_reach_13 : decode cLI_reach 13 = .ok (.iadd, 1) := by decide +kernel
theorem dLI_reach_14 : decode cLI_reach 14 = .ok (.ireturn, 1) := by decide +kernel
theorem dLI_reset_0 : decode cLI_reset 0 = .ok (.aload_n 0, 1) := by decide +kernel
theorem dLI_reset_1 : decode cLI_reset 1 = .ok (.getfield 9, 3) := by decide +kernel
theorem dLI_reset_4 : decode cLI_reset 4 = .ok (.iconst 0, 1) := by decide +kernel
theorem dLI_reset_5 : decode cLI_reset 5 = .ok (.invokestatic 15, 3) := by decide +kernel
theorem dLI_reset_8 : decode cLI_reset 8 = .ok (.return_, 1) := by decide +kernel
theorem dLI_set_0 : decode cLI_set 0 = .ok (.aload_n 0, 1) := by decide +kernel
theorem dLI_set_1 : decode cLI_set 1 = .ok (.getfield 9, 3) := by decide +kernel
theorem dLI_set_4 : decode cLI_set 4 = .ok (.iload_n 1, 1) := by decide +kernel
theorem dLI_set_5 : decode cLI_set 5 = .ok (.iload_n 2, 1) := by decide +kernel
theorem dLI_set_6 : decode cLI_set 6 = .ok (.iastore, 1) := by decide +kernel
theorem dLI_set_7 : decode cLI_set 7 = .ok (.return_, 1) := by decide +kernel
theorem dLI_shareOut_0 : decode cLI_shareOut 0 = .ok (.aload_n 2, 1) := by decide +kernel
theorem dLI_shareOut_1 : decode cLI_shareOut 1 = .ok (.iload_n 3, 1) := by decide +kernel
theorem dLI_shareOut_2 : decode cLI_shareOut 2 = .ok (.iload 4, 2) := by decide +kernel
theorem dLI_shareOut_4 : decode cLI_shareOut 4 = .ok (.invokevirtual 33, 3) := by decide +kernel
theorem dLI_shareOut_7 : decode cLI_shareOut 7 = .ok (.istore 5, 2) := by decide +kernel
theorem dLI_shareOut_9 : decode cLI_shareOut 9 = .ok (.iload 5, 2) := by decide +kernel
theorem dLI_shareOut_11 : decode cLI_shareOut 11 = .ok (.ifCond .ne 7, 3) := by decide +kernel
theorem dLI_shareOut_14 : decode cLI_shareOut 14 = .ok (.iconst 1, 1) := by decide +kernel
theorem dLI_shareOut_15 : decode cLI_shareOut 15 = .ok (.goto 4, 3) := by decide +kernel
theorem dLI_shareOut_18 : decode cLI_shareOut 18 = .ok (.iconst 0, 1) := by decide +kernel
theorem dLI_shareOut_19 : decode cLI_shareOut 19 = .ok (.istore 6, 2) := by decide +kernel
theorem dLI_shareOut_21 : decode cLI_shareOut 21 = .ok (.iload 6, 2) := by decide +kernel
theorem dLI_shareOut_23 : decode cLI_shareOut 23 = .ok (.ifCond .eq 10, 3) := by decide +kernel
theorem dLI_shareOut_26 : decode cLI_shareOut 26 = .ok (.iload 4, 2) := by decide +kernel
theorem dLI_shareOut_28 : decode cLI_shareOut 28 = .ok (.iload_n 3, 1) := by decide +kernel
theorem dLI_shareOut_29 : decode cLI_shareOut 29 = .ok (.isub, 1) := by decide +kernel
theorem dLI_shareOut_30 : decode cLI_shareOut 30 = .ok (.goto 5, 3) := by decide +kernel
theorem dLI_shareOut_33 : decode cLI_shareOut 33 = .ok (.iload 5, 2) := by decide +kernel
theorem dLI_shareOut_35 : decode cLI_shareOut 35 = .ok (.istore 7, 2) := by decide +kernel
theorem dLI_shareOut_37 : decode cLI_shareOut 37 = .ok (.iload 7, 2) := by decide +kernel
theorem dLI_shareOut_39 : decode cLI_shareOut 39 = .ok (.ifCond .gt 4, 3) := by decide +kernel
theorem dLI_shareOut_42 : decode cLI_shareOut 42 = .ok (.return_, 1) := by decide +kernel
theorem dLI_shareOut_43 : decode cLI_shareOut 43 = .ok (.iload_n 1, 1) := by decide +kernel
theorem dLI_shareOut_44 : decode cLI_shareOut 44 = .ok (.istore 8, 2) := by decide +kernel
theorem dLI_shareOut_46 : decode cLI_shareOut 46 = .ok (.iload_n 3, 1) := by decide +kernel
theorem dLI_shareOut_47 : decode cLI_shareOut 47 = .ok (.istore 9, 2) := by decide +kernel
theorem dLI_shareOut_49 : decode cLI_shareOut 49 = .ok (.iload 9, 2) := by decide +kernel
theorem dLI_shareOut_51 : decode cLI_shareOut 51 = .ok (.iload 4, 2) := by decide +kernel
theorem dLI_shareOut_53 : decode cLI_shareOut 53 = .ok (.if_icmp .ge 55, 3) := by decide +kernel
theorem dLI_shareOut_56 : decode cLI_shareOut 56 = .ok (.iload 6, 2) := by decide +kernel
theorem dLI_shareOut_58 : decode cLI_shareOut 58 = .ok (.ifCond .eq 7, 3) := by decide +kernel
theorem dLI_shareOut_61 : decode cLI_shareOut 61 = .ok (.iconst 1, 1) := by decide +kernel
theorem dLI_shareOut_62 : decode cLI_shareOut 62 = .ok (.goto 10, 3) := by decide +kernel
theorem dLI_shareOut_65 : decode cLI_shareOut 65 = .ok (.aload_n 2, 1) := by decide +kernel
theorem dLI_shareOut_66 : decode cLI_shareOut 66 = .ok (.getfield 9, 3) := by decide +kernel
theorem dLI_shareOut_69 : decode cLI_shareOut 69 = .ok (.iload 9, 2) := by decide +kernel
theorem dLI_shareOut_71 : decode cLI_shareOut 71 = .ok (.iaload, 1) := by decide +kernel
theorem dLI_shareOut_72 : decode cLI_shareOut 72 = .ok (.istore 10, 2) := by decide +kernel
theorem dLI_shareOut_74 : decode cLI_shareOut 74 = .ok (.iload_n 1, 1) := by decide +kernel
theorem dLI_shareOut_75 : decode cLI_shareOut 75 = .ok (.iload 10, 2) := by decide +kernel
theorem dLI_shareOut_77 : decode cLI_shareOut 77 = .ok (.imul, 1) := by decide +kernel
theorem dLI_shareOut_78 : decode cLI_shareOut 78 = .ok (.iload 7, 2) := by decide +kernel
theorem dLI_shareOut_80 : decode cLI_shareOut 80 = .ok (.idiv, 1) := by decide +kernel
theorem dLI_shareOut_81 : decode cLI_shareOut 81 = .ok (.istore 11, 2) := by decide +kernel
theorem dLI_shareOut_83 : decode cLI_shareOut 83 = .ok (.aload_n 0, 1) := by decide +kernel
theorem dLI_shareOut_84 : decode cLI_shareOut 84 = .ok (.getfield 9, 3) := by decide +kernel
theorem dLI_shareOut_87 : decode cLI_shareOut 87 = .ok (.iload 9, 2) := by decide +kernel
theorem dLI_shareOut_89 : decode cLI_shareOut 89 = .ok (.dup2, 1) := by decide +kernel
theorem dLI_shareOut_90 : decode cLI_shareOut 90 = .ok (.iaload, 1) := by decide +kernel
theorem dLI_shareOut_91 : decode cLI_shareOut 91 = .ok (.iload 11, 2) := by decide +kernel
theorem dLI_shareOut_93 : decode cLI_shareOut 93 = .ok (.iadd, 1) := by decide +kernel
theorem dLI_shareOut_94 : decode cLI_shareOut 94 = .ok (.iastore, 1) := by decide +kernel
theorem dLI_shareOut_95 : decode cLI_shareOut 95 = .ok (.iload 8, 2) := by decide +kernel
theorem dLI_shareOut_97 : decode cLI_shareOut 97 = .ok (.iload 11, 2) := by decide +kernel
theorem dLI_shareOut_99 : decode cLI_shareOut 99 = .ok (.isub, 1) := by decide +kernel
theorem dLI_shareOut_100 : decode cLI_shareOut 100 = .ok (.istore 8, 2) := by decide +kernel
theorem dLI_shareOut_102 : decode cLI_shareOut 102 = .ok (.iinc 9 1, 3) := by decide +kernel
theorem dLI_shareOut_105 : decode cLI_shareOut 105 = .ok (.goto (-56), 3) := by decide +kernel
theorem dLI_shareOut_108 : decode cLI_shareOut 108 = .ok (.iload_n 3, 1) := by decide +kernel
theorem dLI_shareOut_109 : decode cLI_shareOut 109 = .ok (.istore 9, 2) := by decide +kernel
theorem dLI_shareOut_111 : decode cLI_shareOut 111 = .ok (.iload 9, 2) := by decide +kernel
theorem dLI_shareOut_113 : decode cLI_shareOut 113 = .ok (.iload 4, 2) := by decide +kernel
theorem dLI_shareOut_115 : decode cLI_shareOut 115 = .ok (.if_icmp .ge 28, 3) := by decide +kernel
theorem dLI_shareOut_118 : decode cLI_shareOut 118 = .ok (.iload 8, 2) := by decide +kernel
theorem dLI_shareOut_120 : decode cLI_shareOut 120 = .ok (.ifCond .le 23, 3) := by decide +kernel
theorem dLI_shareOut_123 : decode cLI_shareOut 123 = .ok (.aload_n 0, 1) := by decide +kernel
theorem dLI_shareOut_124 : decode cLI_shareOut 124 = .ok (.getfield 9, 3) := by decide +kernel
theorem dLI_shareOut_127 : decode cLI_shareOut 127 = .ok (.iload 9, 2) := by decide +kernel
theorem dLI_shareOut_129 : decode cLI_shareOut 129 = .ok (.dup2, 1) := by decide +kernel
theorem dLI_shareOut_130 : decode cLI_shareOut 130 = .ok (.iaload, 1) := by decide +kernel
theorem dLI_shareOut_131 : decode cLI_shareOut 131 = .ok (.iconst 1, 1) := by decide +kernel
theorem dLI_shareOut_132 : decode cLI_shareOut 132 = .ok (.iadd, 1) := by decide +kernel
theorem dLI_shareOut_133 : decode cLI_shareOut 133 = .ok (.iastore, 1) := by decide +kernel
theorem dLI_shareOut_134 : decode cLI_shareOut 134 = .ok (.iinc 8 (-1), 3) := by decide +kernel
theorem dLI_shareOut_137 : decode cLI_shareOut 137 = .ok (.iinc 9 1, 3) := by decide +kernel
theorem dLI_shareOut_140 : decode cLI_shareOut 140 = .ok (.goto (-29), 3) := by decide +kernel
theorem dLI_shareOut_143 : decode cLI_shareOut 143 = .ok (.return_, 1) := by decide +kernel
theorem dLI_sizeOf_0 : decode cLI_sizeOf 0 = .ok (.aload_n 0, 1) := by decide +kernel
theorem dLI_sizeOf_1 : decode cLI_sizeOf 1 = .ok (.getfield 9, 3) := by decide +kernel
theorem dLI_sizeOf_4 : decode cLI_sizeOf 4 = .ok (.iload_n 1, 1) := by decide +kernel
theorem dLI_sizeOf_5 : decode cLI_sizeOf 5 = .ok (.iaload, 1) := by decide +kernel
theorem dLI_sizeOf_6 : decode cLI_sizeOf 6 = .ok (.ireturn, 1) := by decide +kernel
theorem dLI_startOf_0 : decode cLI_startOf 0 = .ok (.aload_n 0, 1) := by decide +kernel
theorem dLI_startOf_1 : decode cLI_startOf 1 = .ok (.iconst 0, 1) := by decide +kernel
theorem dLI_startOf_2 : decode cLI_startOf 2 = .ok (.iload_n 1, 1) := by decide +kernel
theorem dLI_startOf_3 : decode cLI_startOf 3 = .ok (.invokevirtual 33, 3) := by decide +kernel
theorem dLI_startOf_6 : decode cLI_startOf 6 = .ok (.iload_n 2, 1) := by decide +kernel
theorem dLI_startOf_7 : decode cLI_startOf 7 = .ok (.iload_n 1, 1) := by decide +kernel
theorem dLI_startOf_8 : decode cLI_startOf 8 = .ok (.iconst 1, 1) := by decide +kernel
theorem dLI_startOf_9 : decode cLI_startOf 9 = .ok (.iadd, 1) := by decide +kernel
theorem dLI_startOf_10 : decode cLI_startOf 10 = .ok (.imul, 1) := by decide +kernel
theorem dLI_startOf_11 : decode cLI_startOf 11 = .ok (.iadd, 1) := by decide +kernel
theorem dLI_startOf_12 : decode cLI_startOf 12 = .ok (.ireturn, 1) := by decide +kernel
theorem dLI_stretch_0 : decode cLI_stretch 0 = .ok (.iload_n 1, 1) := by decide +kernel
theorem dLI_stretch_1 : decode cLI_stretch 1 = .ok (.aload_n 0, 1) := by decide +kernel
theorem dLI_stretch_2 : decode cLI_stretch 2 = .ok (.iload 4, 2) := by decide +kernel
theorem dLI_stretch_4 : decode cLI_stretch 4 = .ok (.iload 5, 2) := by decide +kernel
theorem dLI_stretch_6 : decode cLI_stretch 6 = .ok (.iload_n 2, 1) := by decide +kernel
theorem dLI_stretch_7 : decode cLI_stretch 7 = .ok (.invokevirtual 36, 3) := by decide +kernel
theorem dLI_stretch_10 : decode cLI_stretch 10 = .ok (.isub, 1) := by decide +kernel
theorem dLI_stretch_11 : decode cLI_stretch 11 = .ok (.istore 6, 2) := by decide +kernel
theorem dLI_stretch_13 : decode cLI_stretch 13 = .ok (.iload 6, 2) := by decide +kernel
theorem dLI_stretch_15 : decode cLI_stretch 15 = .ok (.ifCond .le 14, 3) := by decide +kernel
theorem dLI_stretch_18 : decode cLI_stretch 18 = .ok (.aload_n 0, 1) := by decide +kernel
theorem dLI_stretch_19 : decode cLI_stretch 19 = .ok (.iload 6, 2) := by decide +kernel
theorem dLI_stretch_21 : decode cLI_stretch 21 = .ok (.aload_n 3, 1) := by decide +kernel
theorem dLI_stretch_22 : decode cLI_stretch 22 = .ok (.iload 4, 2) := by decide +kernel
theorem dLI_stretch_24 : decode cLI_stretch 24 = .ok (.iload 5, 2) := by decide +kernel
theorem dLI_stretch_26 : decode cLI_stretch 26 = .ok (.invokevirtual 40, 3) := by decide +kernel
theorem dLI_stretch_29 : decode cLI_stretch 29 = .ok (.return_, 1) := by decide +kernel
theorem dLI_sum_0 : decode cLI_sum 0 = .ok (.iconst 0, 1) := by decide +kernel
theorem dLI_sum_1 : decode cLI_sum 1 = .ok (.istore_n 3, 1) := by decide +kernel
theorem dLI_sum_2 : decode cLI_sum 2 = .ok (.iload_n 1, 1) := by decide +kernel
theorem dLI_sum_3 : decode cLI_sum 3 = .ok (.istore 4, 2) := by decide +kernel
theorem dLI_sum_5 : decode cLI_sum 5 = .ok (.iload 4, 2) := by decide +kernel
theorem dLI_sum_7 : decode cLI_sum 7 = .ok (.iload_n 2, 1) := by decide +kernel
theorem dLI_sum_8 : decode cLI_sum 8 = .ok (.if_icmp .ge 19, 3) := by decide +kernel
theorem dLI_sum_11 : decode cLI_sum 11 = .ok (.iload_n 3, 1) := by decide +kernel
theorem dLI_sum_12 : decode cLI_sum 12 = .ok (.aload_n 0, 1) := by decide +kernel
theorem dLI_sum_13 : decode cLI_sum 13 = .ok (.getfield 9, 3) := by decide +kernel
theorem dLI_sum_16 : decode cLI_sum 16 = .ok (.iload 4, 2) := by decide +kernel
theorem dLI_sum_18 : decode cLI_sum 18 = .ok (.iaload, 1) := by decide +kernel
theorem dLI_sum_19 : decode cLI_sum 19 = .ok (.iadd, 1) := by decide +kernel
theorem dLI_sum_20 : decode cLI_sum 20 = .ok (.istore_n 3, 1) := by decide +kernel
theorem dLI_sum_21 : decode cLI_sum 21 = .ok (.iinc 4 1, 3) := by decide +kernel
theorem dLI_sum_24 : decode cLI_sum 24 = .ok (.goto (-19), 3) := by decide +kernel
theorem dLI_sum_27 : decode cLI_sum 27 = .ok (.iload_n 3, 1) := by decide +kernel
theorem dLI_sum_28 : decode cLI_sum 28 = .ok (.ireturn, 1) := by decide +kernel
theorem dMD_border_0 : decode cMD_border 0 = .ok (.aload_n 0, 1) := by decide +kernel
theorem dMD_border_1 : decode cMD_border 1 = .ok (.iload_n 1, 1) := by decide +kernel
theorem dMD_border_2 : decode cMD_border 2 = .ok (.invokevirtual 89, 3) := by decide +kernel
theorem dMD_border_5 : decode cMD_border 5 = .ok (.ifCond .eq 22, 3) := by decide +kernel
theorem dMD_border_8 : decode cMD_border 8 = .ok (.iload_n 2, 1) := by decide +kernel
theorem dMD_border_9 : decode cMD_border 9 = .ok (.ifCond .lt 18, 3) := by decide +kernel
theorem dMD_border_12 : decode cMD_border 12 = .ok (.iload_n 2, 1) := by decide +kernel
theorem dMD_border_13 : decode cMD_border 13 = .ok (.bipush 9, 2) := by decide +kernel
theorem dMD_border_15 : decode cMD_border 15 = .ok (.if_icmp .gt 12, 3) := by decide +kernel
theorem dMD_border_18 : decode cMD_border 18 = .ok (.iload_n 3, 1) := by decide +kernel
theorem dMD_border_19 : decode cMD_border 19 = .ok (.ifCond .lt 8, 3) := by decide +kernel
theorem dMD_border_22 : decode cMD_border 22 = .ok (.iload_n 3, 1) := by decide +kernel
theorem dMD_border_23 : decode cMD_border 23 = .ok (.iconst 4, 1) := by decide +kernel
theorem dMD_border_24 : decode cMD_border 24 = .ok (.if_icmp .le 5, 3) := by decide +kernel
theorem dMD_border_27 : decode cMD_border 27 = .ok (.iconst 0, 1) := by decide +kernel
theorem dMD_border_28 : decode cMD_border 28 = .ok (.ireturn, 1) := by decide +kernel
theorem dMD_border_29 : decode cMD_border 29 = .ok (.aload_n 0, 1) := by decide +kernel
theorem dMD_border_30 : decode cMD_border 30 = .ok (.getfield 44, 3) := by decide +kernel
theorem dMD_border_33 : decode cMD_border 33 = .ok (.iload_n 1, 1) := by decide +kernel
theorem dMD_border_34 : decode cMD_border 34 = .ok (.iload_n 2, 1) := by decide +kernel
theorem dMD_border_35 : decode cMD_border 35 = .ok (.iastore, 1) := by decide +kernel
theorem dMD_border_36 : decode cMD_border 36 = .ok (.aload_n 0, 1) := by decide +kernel
theorem dMD_border_37 : decode cMD_border 37 = .ok (.getfield 47, 3) := by decide +kernel
theorem dMD_border_40 : decode cMD_border 40 = .ok (.iload_n 1, 1) := by decide +kernel
theorem dMD_border_41 : decode cMD_border 41 = .ok (.iload_n 3, 1) := by decide +kernel
theorem dMD_border_42 : decode cMD_border 42 = .ok (.iastore, 1) := by decide +kernel
theorem dMD_border_43 : decode cMD_border 43 = .ok (.iconst 1, 1) := by decide +kernel
theorem dMD_border_44 : decode cMD_border 44 = .ok (.ireturn, 1) := by decide +kernel
theorem dMD_cell_0 : decode cMD_cell 0 = .ok (.iload_n 1, 1) := by decide +kernel
theorem dMD_cell_1 : decode cMD_cell 1 = .ok (.ifCond .le 54, 3) := by decide +kernel
theorem dMD_cell_4 : decode cMD_cell 4 = .ok (.iload_n 1, 1) := by decide +kernel
theorem dMD_cell_5 : decode cMD_cell 5 = .ok (.bipush 7, 2) := by decide +kernel
theorem dMD_cell_7 : decode cMD_cell 7 = .ok (.if_icmp .ge 48, 3) := by decide +kernel
theorem dMD_cell_10 : decode cMD_cell 10 = .ok (.iload_n 2, 1) := by decide +kernel
theorem dMD_cell_11 : decode cMD_cell 11 = .ok (.ifCond .lt 44, 3) := by decide +kernel
theorem dMD_cell_14 : decode cMD_cell 14 = .ok (.iload_n 2, 1) := by decide +kernel
theorem dMD_cell_15 : decode cMD_cell 15 = .ok (.bipush 7, 2) := by decide +kernel
theorem dMD_cell_17 : decode cMD_cell 17 = .ok (.if_icmp .ge 38, 3) := by decide +kernel
theorem dMD_cell_20 : decode cMD_cell 20 = .ok (.iload_n 3, 1) := by decide +kernel
theorem dMD_cell_21 : decode cMD_cell 21 = .ok (.ifCond .lt 34, 3) := by decide +kernel
theorem dMD_cell_24 : decode cMD_cell 24 = .ok (.iload_n 3, 1) := by decide +kernel
theorem dMD_cell_25 : decode cMD_cell 25 = .ok (.iload 4, 2) := by decide +kernel
theorem dMD_cell_27 : decode cMD_cell 27 = .ok (.if_icmp .gt 28, 3) := by decide +kernel
theorem dMD_cell_30 : decode cMD_cell 30 = .ok (.iload 4, 2) := by decide +kernel
theorem dMD_cell_32 : decode cMD_cell 32 = .ok (.sipush 1000, 3) := by decide +kernel
theorem dMD_cell_35 : decode cMD_cell 35 = .ok (.if_icmp .gt 20, 3) := by decide +kernel
theorem dMD_cell_38 : decode cMD_cell 38 = .ok (.iload 5, 2) := by decide +kernel
theorem dMD_cell_40 : decode cMD_cell 40 = .ok (.ifCond .lt 15, 3) := by decide +kernel
theorem dMD_cell_43 : decode cMD_cell 43 = .ok (.iload 5, 2) := by decide +kernel
theorem dMD_cell_45 : decode cMD_cell 45 = .ok (.sipush 1000, 3) := by decide +kernel
theorem dMD_cell_48 : decode cMD_cell 48 = .ok (.if_icmp .gt 7, 3) := by decide +kernel
theorem dMD_cell_51 : decode cMD_cell 51 = .ok (.iconst 1, 1) := by decide +kernel
theorem dMD_cell_52 : decode cMD_cell 52 = .ok (.goto 4, 3) := by decide +kernel
theorem dMD_cell_55 : decode cMD_cell 55 = .ok (.iconst 0, 1) := by decide +kernel
theorem dMD_cell_56 : decode cMD_cell 56 = .ok (.istore 6, 2) := by decide +kernel
theorem dMD_cell_58 : decode cMD_cell 58 = .ok (.iload 6, 2) := by decide +kernel
theorem dMD_cell_60 : decode cMD_cell 60 = .ok (.ifCond .eq 25, 3) := by decide +kernel
theorem dMD_cell_63 : decode cMD_cell 63 = .ok (.aload_n 0, 1) := by decide +kernel
theorem dMD_cell_64 : decode cMD_cell 64 = .ok (.getfield 50, 3) := by decide +kernel
theorem dMD_cell_67 : decode cMD_cell 67 = .ok (.aload_n 0, 1) := by decide +kernel
theorem dMD_cell_68 : decode cMD_cell 68 = .ok (.getfield 7, 3) := by decide +kernel
theorem dMD_cell_71 : decode cMD_cell 71 = .ok (.iconst 1, 1) := by decide +kernel
theorem dMD_cell_72 : decode cMD_cell 72 = .ok (.isub, 1) := by decide +kernel
theorem dMD_cell_73 : decode cMD_cell 73 = .ok (.if_icmp .ne 12, 3) := by decide +kernel
theorem dMD_cell_76 : decode cMD_cell 76 = .ok (.aload_n 0, 1) := by decide +kernel
theorem dMD_cell_77 : decode cMD_cell 77 = .ok (.getfield 72, 3) := by decide +kernel
theorem dMD_cell_80 : decode cMD_cell 80 = .ok (.bipush 40, 2) := by decide +kernel
theorem dMD_cell_82 : decode cMD_cell 82 = .ok (.if_icmp .ne 5, 3) := by decide +kernel
theorem dMD_cell_85 : decode cMD_cell 85 = .ok (.iconst (-1), 1) := by decide +kernel
theorem dMD_cell_86 : decode cMD_cell 86 = .ok (.ireturn, 1) := by decide +kernel
theorem dMD_cell_87 : decode cMD_cell 87 = .ok (.aload_n 0, 1) := by decide +kernel
theorem dMD_cell_88 : decode cMD_cell 88 = .ok (.getfield 82, 3) := by decide +kernel
theorem dMD_cell_91 : decode cMD_cell 91 = .ok (.istore 7, 2) := by decide +kernel
theorem dMD_cell_93 : decode cMD_cell 93 = .ok (.iload 7, 2) := by decide +kernel
theorem dMD_cell_95 : decode cMD_cell 95 = .ok (.bipush 12, 2) := by decide +kernel
theorem dMD_cell_97 : decode cMD_cell 97 = .ok (.if_icmp .ge 21, 3) := by decide +kernel
theorem dMD_cell_100 : decode cMD_cell 100 = .ok (.aload_n 0, 1) := by decide +kernel
theorem dMD_cell_101 : decode cMD_cell 101 = .ok (.iload 7, 2) := by decide +kernel
theorem dMD_cell_103 : decode cMD_cell 103 = .ok (.invokevirtual 85, 3) := by decide +kernel
theorem dMD_cell_106 : decode cMD_cell 106 = .ok (.ifCond .eq 12, 3) := by decide +kernel
theorem dMD_cell_109 : decode cMD_cell 109 = .ok (.iload 7, 2) := by decide +kernel
theorem dMD_cell_111 : decode cMD_cell 111 = .ok (.iconst 1, 1) := by decide +kernel
theorem dMD_cell_112 : decode cMD_cell 112 = .ok (.iadd, 1) := by decide +kernel
theorem dMD_cell_113 : decode cMD_cell 113 = .ok (.istore 7, 2) := by decide +kernel
theorem dMD_cell_115 : decode cMD_cell 115 = .ok (.goto (-22), 3) := by decide +kernel
theorem dMD_cell_118 : decode cMD_cell 118 = .ok (.iload 7, 2) := by decide +kernel
theorem dMD_cell_120 : decode cMD_cell 120 = .ok (.iload_n 1, 1) := by decide +kernel
theorem dMD_cell_121 : decode cMD_cell 121 = .ok (.iadd, 1) := by decide +kernel
theorem dMD_cell_122 : decode cMD_cell 122 = .ok (.bipush 12, 2) := by decide +kernel
theorem dMD_cell_124 : decode cMD_cell 124 = .ok (.if_icmp .gt 14, 3) := by decide +kernel
theorem dMD_cell_127 : decode cMD_cell 127 = .ok (.aload_n 0, 1) := by decide +kernel
theorem dMD_cell_128 : decode cMD_cell 128 = .ok (.getfield 79, 3) := by decide +kernel
theorem dMD_cell_131 : decode cMD_cell 131 = .ok (.iload_n 2, 1) := by decide +kernel
theorem dMD_cell_132 : decode cMD_cell 132 = .ok (.iadd, 1) := by decide +kernel
theorem dMD_cell_133 : decode cMD_cell 133 = .ok (.bipush 12, 2) := by decide +kernel
theorem dMD_cell_135 : decode cMD_cell 135 = .ok (.if_icmp .le 5, 3) := by decide +kernel
theorem dMD_cell_138 : decode cMD_cell 138 = .ok (.iconst (-1), 1) := by decide +kernel
theorem dMD_cell_139 : decode cMD_cell 139 = .ok (.ireturn, 1) := by decide +kernel
theorem dMD_cell_140 : decode cMD_cell 140 = .ok (.aload_n 0, 1) := by decide +kernel
theorem dMD_cell_141 : decode cMD_cell 141 = .ok (.getfield 72, 3) := by decide +kernel
theorem dMD_cell_144 : decode cMD_cell 144 = .ok (.istore 8, 2) := by decide +kernel
theorem dMD_cell_146 : decode cMD_cell 146 = .ok (.aload_n 0, 1) := by decide +kernel
theorem dMD_cell_147 : decode cMD_cell 147 = .ok (.getfield 20, 3) := by decide +kernel
theorem dMD_cell_150 : decode cMD_cell 150 = .ok (.iload 8, 2) := by decide +kernel
theorem dMD_cell_152 : decode cMD_cell 152 = .ok (.iload 7, 2) := by decide +kernel
theorem dMD_cell_154 : decode cMD_cell 154 = .ok (.iastore, 1) := by decide +kernel
theorem dMD_cell_155 : decode cMD_cell 155 = .ok (.aload_n 0, 1) := by decide +kernel
theorem dMD_cell_156 : decode cMD_cell 156 = .ok (.getfield 23, 3) := by decide +kernel
theorem dMD_cell_159 : decode cMD_cell 159 = .ok (.iload 8, 2) := by decide +kernel
theorem dMD_cell_161 : decode cMD_cell 161 = .ok (.aload_n 0, 1) := by decide +kernel
theorem dMD_cell_162 : decode cMD_cell 162 = .ok (.getfield 79, 3) := by decide +kernel
theorem dMD_cell_165 : decode cMD_cell 165 = .ok (.iastore, 1) := by decide +kernel
theorem dMD_cell_166 : decode cMD_cell 166 = .ok (.aload_n 0, 1) := by decide +kernel
theorem dMD_cell_167 : decode cMD_cell 167 = .ok (.getfield 26, 3) := by decide +kernel
theorem dMD_cell_170 : decode cMD_cell 170 = .ok (.iload 8, 2) := by decide +kernel
theorem dMD_cell_172 : decode cMD_cell 172 = .ok (.iload_n 1, 1) := by decide +kernel
theorem dMD_cell_173 : decode cMD_cell 173 = .ok (.iastore, 1) := by decide +kernel
theorem dMD_cell_174 : decode cMD_cell 174 = .ok (.aload_n 0, 1) := by decide +kernel
theorem dMD_cell_175 : decode cMD_cell 175 = .ok (.getfield 29, 3) := by decide +kernel
theorem dMD_cell_178 : decode cMD_cell 178 = .ok (.iload 8, 2) := by decide +kernel
theorem dMD_cell_180 : decode cMD_cell 180 = .ok (.iload_n 2, 1) := by decide +kernel
theorem dMD_cell_181 : decode cMD_cell 181 = .ok (.iastore, 1) := by decide +kernel
theorem dMD_cell_182 : decode cMD_cell 182 = .ok (.aload_n 0, 1) := by decide +kernel
theorem dMD_cell_183 : decode cMD_cell 183 = .ok (.getfield 32, 3) := by decide +kernel
theorem dMD_cell_186 : decode cMD_cell 186 = .ok (.iload 8, 2) := by decide +kernel
theorem dMD_cell_188 : decode cMD_cell 188 = .ok (.aload_n 0, 1) := by decide +kernel
theorem dMD_cell_189 : decode cMD_cell 189 = .ok (.getfield 50, 3) := by decide +kernel
theorem dMD_cell_192 : decode cMD_cell 192 = .ok (.iastore, 1) := by decide +kernel
theorem dMD_cell_193 : decode cMD_cell 193 = .ok (.aload_n 0, 1) := by decide +kernel
theorem dMD_cell_194 : decode cMD_cell 194 = .ok (.getfield 35, 3) := by decide +kernel
theorem dMD_cell_197 : decode cMD_cell 197 = .ok (.iload 8, 2) := by decide +kernel
theorem dMD_cell_199 : decode cMD_cell 199 = .ok (.iload_n 3, 1) := by decide +kernel
theorem dMD_cell_200 : decode cMD_cell 200 = .ok (.iastore, 1) := by decide +kernel
theorem dMD_cell_201 : decode cMD_cell 201 = .ok (.aload_n 0, 1) := by decide +kernel
theorem dMD_cell_202 : decode cMD_cell 202 = .ok (.getfield 38, 3) := by decide +kernel
theorem dMD_cell_205 : decode cMD_cell 205 = .ok (.iload 8, 2) := by decide +kernel
theorem dMD_cell_207 : decode cMD_cell 207 = .ok (.iload 4, 2) := by decide +kernel
theorem dMD_cell_209 : decode cMD_cell 209 = .ok (.iastore, 1) := by decide +kernel
theorem dMD_cell_210 : decode cMD_cell 210 = .ok (.aload_n 0, 1) := by decide +kernel
theorem dMD_cell_211 : decode cMD_cell 211 = .ok (.getfield 41, 3) := by decide +kernel
theorem dMD_cell_214 : decode cMD_cell 214 = .ok (.iload 8, 2) := by decide +kernel
theorem dMD_cell_216 : decode cMD_cell 216 = .ok (.iload 5, 2) := by decide +kernel
theorem dMD_cell_218 : decode cMD_cell 218 = .ok (.iastore, 1) := by decide +kernel
theorem dMD_cell_219 : decode cMD_cell 219 = .ok (.aload_n 0, 1) := by decide +kernel
theorem dMD_cell_220 : decode cMD_cell 220 = .ok (.getfield 44, 3) := by decide +kernel
theorem dMD_cell_223 : decode cMD_cell 223 = .ok (.iload 8, 2) := by decide +kernel
theorem dMD_cell_225 : decode cMD_cell 225 = .ok (.iconst 0, 1) := by decide +kernel
theorem dMD_cell_226 : decode cMD_cell 226 = .ok (.iastore, 1) := by decide +kernel
theorem dMD_cell_227 : decode cMD_cell 227 = .ok (.aload_n 0, 1) := by decide +kernel
theorem dMD_cell_228 : decode cMD_cell 228 = .ok (.getfield 47, 3) := by decide +kernel
theorem dMD_cell_231 : decode cMD_cell 231 = .ok (.iload 8, 2) := by decide +kernel
theorem dMD_cell_233 : decode cMD_cell 233 = .ok (.iconst 0, 1) := by decide +kernel
theorem dMD_cell_234 : decode cMD_cell 234 = .ok (.iastore, 1) := by decide +kernel
theorem dMD_cell_235 : decode cMD_cell 235 = .ok (.aload_n 0, 1) := by decide +kernel
theorem dMD_cell_236 : decode cMD_cell 236 = .ok (.iload 7, 2) := by decide +kernel
theorem dMD_cell_238 : decode cMD_cell 238 = .ok (.iload_n 1, 1) := by decide +kernel
theorem dMD_cell_239 : decode cMD_cell 239 = .ok (.iadd, 1) := by decide +kernel
theorem dMD_cell_240 : decode cMD_cell 240 = .ok (.putfield 82, 3) := by decide +kernel
theorem dMD_cell_243 : decode cMD_cell 243 = .ok (.aload_n 0, 1) := by decide +kernel
theorem dMD_cell_244 : decode cMD_cell 244 = .ok (.aload_n 0, 1) := by decide +kernel
theorem dMD_cell_245 : decode cMD_cell 245 = .ok (.getfield 72, 3) := by decide +kernel
theorem dMD_cell_248 : decode cMD_cell 248 = .ok (.iconst 1, 1) := by decide +kernel
theorem dMD_cell_249 : decode cMD_cell 249 = .ok (.iadd, 1) := by decide +kernel
theorem dMD_cell_250 : decode cMD_cell 250 = .ok (.putfield 72, 3) := by decide +kernel
theorem dMD_cell_253 : decode cMD_cell 253 = .ok (.iload 8, 2) := by decide +kernel
theorem dMD_cell_255 : decode cMD_cell 255 = .ok (.ireturn, 1) := by decide +kernel
theorem dMD_clear_0 : decode cMD_clear 0 = .ok (.aload_n 0, 1) := by decide +kernel
theorem dMD_clear_1 : decode cMD_clear 1 = .ok (.getfield 72, 3) := by decide +kernel
theorem dMD_clear_4 : decode cMD_clear 4 = .ok (.istore_n 1, 1) := by decide +kernel
theorem dMD_clear_5 : decode cMD_clear 5 = .ok (.aload_n 0, 1) := by decide +kernel
theorem dMD_clear_6 : decode cMD_clear 6 = .ok (.iconst 0, 1) := by decide +kernel
theorem dMD_clear_7 : decode cMD_clear 7 = .ok (.putfield 72, 3) := by decide +kernel
theorem dMD_clear_10 : decode cMD_clear 10 = .ok (.aload_n 0, 1) := by decide +kernel
theorem dMD_clear_11 : decode cMD_clear 11 = .ok (.iconst 1, 1) := by decide +kernel
theorem dMD_clear_12 : decode cMD_clear 12 = .ok (.putfield 7, 3) := by decide +kernel
theorem dMD_clear_15 : decode cMD_clear 15 = .ok (.aload_n 0, 1) := by decide +kernel
theorem dMD_clear_16 : decode cMD_clear 16 = .ok (.getfield 13, 3) := by decide +kernel
theorem dMD_clear_19 : decode cMD_clear 19 = .ok (.iconst 0, 1) := by decide +kernel
theorem dMD_clear_20 : decode cMD_clear 20 = .ok (.iconst 0, 1) := by decide +kernel
theorem dMD_clear_21 : decode cMD_clear 21 = .ok (.iastore, 1) := by decide +kernel
theorem dMD_clear_22 : decode cMD_clear 22 = .ok (.aload_n 0, 1) := by decide +kernel
theorem dMD_clear_23 : decode cMD_clear 23 = .ok (.getfield 17, 3) := by decide +kernel
theorem dMD_clear_26 : decode cMD_clear 26 = .ok (.iconst 0, 1) := by decide +kernel
theorem dMD_clear_27 : decode cMD_clear 27 = .ok (.iconst 0, 1) := by decide +kernel
theorem dMD_clear_28 : decode cMD_clear 28 = .ok (.iastore, 1) := by decide +kernel
theorem dMD_clear_29 : decode cMD_clear 29 = .ok (.aload_n 0, 1) := by decide +kernel
theorem dMD_clear_30 : decode cMD_clear 30 = .ok (.iconst (-1), 1) := by decide +kernel
theorem dMD_clear_31 : decode cMD_clear 31 = .ok (.putfield 50, 3) := by decide +kernel
theorem dMD_clear_34 : decode cMD_clear 34 = .ok (.iload_n 1, 1) := by decide +kernel
theorem dMD_clear_35 : decode cMD_clear 35 = .ok (.ireturn, 1) := by decide +kernel
theorem dMD_columns_0 : decode cMD_columns 0 = .ok (.iconst 0, 1) := by decide +kernel
theorem dMD_columns_1 : decode cMD_columns 1 = .ok (.istore_n 1, 1) := by decide +kernel
theorem dMD_columns_2 : decode cMD_columns 2 = .ok (.iconst 0, 1) := by decide +kernel
theorem dMD_columns_3 : decode cMD_columns 3 = .ok (.istore_n 2, 1) := by decide +kernel
theorem dMD_columns_4 : decode cMD_columns 4 = .ok (.iload_n 2, 1) := by decide +kernel
theorem dMD_columns_5 : decode cMD_columns 5 = .ok (.aload_n 0, 1) := by decide +kernel
theorem dMD_columns_6 : decode cMD_columns 6 = .ok (.getfield 72, 3) := by decide +kernel
theorem dMD_columns_9 : decode cMD_columns 9 = .ok (.if_icmp .ge 44, 3) := by decide +kernel
theorem dMD_columns_12 : decode cMD_columns 12 = .ok (.aload_n 0, 1) := by decide +kernel
theorem dMD_columns_13 : decode cMD_columns 13 = .ok (.getfield 20, 3) := by decide +kernel
theorem dMD_columns_16 : decode cMD_columns 16 = .ok (.iload_n 2, 1) := by decide +kernel
theorem dMD_columns_17 : decode cMD_columns 17 = .ok (.iaload, 1) := by decide +kernel
theorem dMD_columns_18 : decode cMD_columns 18 = .ok (.aload_n 0, 1) := by decide +kernel
theorem dMD_columns_19 : decode cMD_columns 19 = .ok (.getfield 26, 3) := by decide +kernel
theorem dMD_columns_22 : decode cMD_columns 22 = .ok (.iload_n 2, 1) := by decide +kernel
theorem dMD_columns_23 : decode cMD_columns 23 = .ok (.iaload, 1) := by decide +kernel
theorem dMD_columns_24 : decode cMD_columns 24 = .ok (.iadd, 1) := by decide +kernel
theorem dMD_columns_25 : decode cMD_columns 25 = .ok (.iload_n 1, 1) := by decide +kernel
theorem dMD_columns_26 : decode cMD_columns 26 = .ok (.if_icmp .le 19, 3) := by decide +kernel
theorem dMD_columns_29 : decode cMD_columns 29 = .ok (.aload_n 0, 1) := by decide +kernel
theorem dMD_columns_30 : decode cMD_columns 30 = .ok (.getfield 20, 3) := by decide +kernel
theorem dMD_columns_33 : decode cMD_columns 33 = .ok (.iload_n 2, 1) := by decide +kernel
theorem dMD_columns_34 : decode cMD_columns 34 = .ok (.iaload, 1) := by decide +kernel
theorem dMD_columns_35 : decode cMD_columns 35 = .ok (.aload_n 0, 1) := by decide +kernel
theorem dMD_columns_36 : decode cMD_columns 36 = .ok (.getfield 26, 3) := by decide +kernel
theorem dMD_columns_39 : decode cMD_columns 39 = .ok (.iload_n 2, 1) := by decide +kernel
theorem dMD_columns_40 : decode cMD_columns 40 = .ok (.iaload, 1) := by decide +kernel
theorem dMD_columns_41 : decode cMD_columns 41 = .ok (.iadd, 1) := by decide +kernel
theorem dMD_columns_42 : decode cMD_columns 42 = .ok (.goto 4, 3) := by decide +kernel
theorem dMD_columns_45 : decode cMD_columns 45 = .ok (.iload_n 1, 1) := by decide +kernel
theorem dMD_columns_46 : decode cMD_columns 46 = .ok (.istore_n 1, 1) := by decide +kernel
theorem dMD_columns_47 : decode cMD_columns 47 = .ok (.iinc 2 1, 3) := by decide +kernel
theorem dMD_columns_50 : decode cMD_columns 50 = .ok (.goto (-46), 3) := by decide +kernel
theorem dMD_columns_53 : decode cMD_columns 53 = .ok (.iload_n 1, 1) := by decide +kernel
theorem dMD_columns_54 : decode cMD_columns 54 = .ok (.ireturn, 1) := by decide +kernel
theorem dMD_down_0 : decode cMD_down 0 = .ok (.aload_n 0, 1) := by decide +kernel
theorem dMD_down_1 : decode cMD_down 1 = .ok (.getfield 29, 3) := by decide +kernel
theorem dMD_down_4 : decode cMD_down 4 = .ok (.iload_n 1, 1) := by decide +kernel
theorem dMD_down_5 : decode cMD_down 5 = .ok (.iaload, 1) := by decide +kernel
theorem dMD_down_6 : decode cMD_down 6 = .ok (.ifCond .le 12, 3) := by decide +kernel
theorem dMD_down_9 : decode cMD_down 9 = .ok (.aload_n 0, 1) := by decide +kernel
theorem dMD_down_10 : decode cMD_down 10 = .ok (.getfield 29, 3) := by decide +kernel
theorem dMD_down_13 : decode cMD_down 13 = .ok (.iload_n 1, 1) := by decide +kernel
theorem dMD_down_14 : decode cMD_down 14 = .ok (.iaload, 1) := by decide +kernel
theorem dMD_down_15 : decode cMD_down 15 = .ok (.goto 20, 3) := by decide +kernel
theorem dMD_down_18 : decode cMD_down 18 = .ok (.aload_n 0, 1) := by decide +kernel
theorem dMD_down_19 : decode cMD_down 19 = .ok (.aload_n 0, 1) := by decide +kernel
theorem dMD_down_20 : decode cMD_down 20 = .ok (.getfield 32, 3) := by decide +kernel
theorem dMD_down_23 : decode cMD_down 23 = .ok (.iload_n 1, 1) := by decide +kernel
theorem dMD_down_24 : decode cMD_down 24 = .ok (.iaload, 1) := by decide +kernel
theorem dMD_down_25 : decode cMD_down 25 = .ok (.invokevirtual 75, 3) := by decide +kernel
theorem dMD_down_28 : decode cMD_down 28 = .ok (.aload_n 0, 1) := by decide +kernel
theorem dMD_down_29 : decode cMD_down 29 = .ok (.getfield 23, 3) := by decide +kernel
theorem dMD_down_32 : decode cMD_down 32 = .ok (.iload_n 1, 1) := by decide +kernel
theorem dMD_down_33 : decode cMD_down 33 = .ok (.iaload, 1) := by decide +kernel
theorem dMD_down_34 : decode cMD_down 34 = .ok (.isub, 1) := by decide +kernel
theorem dMD_down_35 : decode cMD_down 35 = .ok (.ireturn, 1) := by decide +kernel
theorem dMD_edge_0 : decode cMD_edge 0 = .ok (.iload_n 1, 1) := by decide +kernel
theorem dMD_edge_1 : decode cMD_edge 1 = .ok (.ifCond .lt 23, 3) := by decide +kernel
theorem dMD_edge_4 : decode cMD_edge 4 = .ok (.iload_n 1, 1) := by decide +kernel
theorem dMD_edge_5 : decode cMD_edge 5 = .ok (.aload_n 0, 1) := by decide +kernel
theorem dMD_edge_6 : decode cMD_edge 6 = .ok (.invokevirtual 113, 3) := by decide +kernel
theorem dMD_edge_9 : decode cMD_edge 9 = .ok (.if_icmp .ge 15, 3) := by decide +kernel
theorem dMD_edge_12 : decode cMD_edge 12 = .ok (.iload_n 2, 1) := by decide +kernel
theorem dMD_edge_13 : decode cMD_edge 13 = .ok (.ifCond .lt 11, 3) := by decide +kernel
theorem dMD_edge_16 : decode cMD_edge 16 = .ok (.iload_n 2, 1) := by decide +kernel
theorem dMD_edge_17 : decode cMD_edge 17 = .ok (.aload_n 0, 1) := by decide +kernel
theorem dMD_edge_18 : decode cMD_edge 18 = .ok (.invokevirtual 117, 3) := by decide +kernel
theorem dMD_edge_21 : decode cMD_edge 21 = .ok (.if_icmp .lt 5, 3) := by decide +kernel
theorem dMD_edge_24 : decode cMD_edge 24 = .ok (.iconst (-1), 1) := by decide +kernel
theorem dMD_edge_25 : decode cMD_edge 25 = .ok (.ireturn, 1) := by decide +kernel
theorem dMD_edge_26 : decode cMD_edge 26 = .ok (.aload_n 0, 1) := by decide +kernel
theorem dMD_edge_27 : decode cMD_edge 27 = .ok (.iload_n 1, 1) := by decide +kernel
theorem dMD_edge_28 : decode cMD_edge 28 = .ok (.iload_n 2, 1) := by decide +kernel
theorem dMD_edge_29 : decode cMD_edge 29 = .ok (.invokevirtual 155, 3) := by decide +kernel
theorem dMD_edge_32 : decode cMD_edge 32 = .ok (.istore 4, 2) := by decide +kernel
theorem dMD_edge_34 : decode cMD_edge 34 = .ok (.iload_n 3, 1) := by decide +kernel
theorem dMD_edge_35 : decode cMD_edge 35 = .ok (.ifCond .eq 14, 3) := by decide +kernel
theorem dMD_edge_38 : decode cMD_edge 38 = .ok (.aload_n 0, 1) := by decide +kernel
theorem dMD_edge_39 : decode cMD_edge 39 = .ok (.iload_n 1, 1) := by decide +kernel
theorem dMD_edge_40 : decode cMD_edge 40 = .ok (.iload_n 2, 1) := by decide +kernel
theorem dMD_edge_41 : decode cMD_edge 41 = .ok (.iconst 1, 1) := by decide +kernel
theorem dMD_edge_42 : decode cMD_edge 42 = .ok (.iadd, 1) := by decide +kernel
theorem dMD_edge_43 : decode cMD_edge 43 = .ok (.invokevirtual 155, 3) := by decide +kernel
theorem dMD_edge_46 : decode cMD_edge 46 = .ok (.goto 11, 3) := by decide +kernel
theorem dMD_edge_49 : decode cMD_edge 49 = .ok (.aload_n 0, 1) := by decide +kernel
theorem dMD_edge_50 : decode cMD_edge 50 = .ok (.iload_n 1, 1) := by decide +kernel
theorem dMD_edge_51 : decode cMD_edge 51 = .ok (.iconst 1, 1) := by decide +kernel
theorem dMD_edge_52 : decode cMD_edge 52 = .ok (.iadd, 1) := by decide +kernel
theorem dMD_edge_53 : decode cMD_edge 53 = .ok (.iload_n 2, 1) := by decide +kernel
theorem dMD_edge_54 : decode cMD_edge 54 = .ok (.invokevirtual 155, 3) := by decide +kernel
theorem dMD_edge_57 : decode cMD_edge 57 = .ok (.istore 5, 2) := by decide +kernel
theorem dMD_edge_59 : decode cMD_edge 59 = .ok (.iload 4, 2) := by decide +kernel
theorem dMD_edge_61 : decode cMD_edge 61 = .ok (.iload 5, 2) := by decide +kernel
theorem dMD_edge_63 : decode cMD_edge 63 = .ok (.if_icmp .ne 7, 3) := by decide +kernel
theorem dMD_edge_66 : decode cMD_edge 66 = .ok (.iconst (-1), 1) := by decide +kernel
end
section
theorem dMD_edge_67 : decode cMD_edge 67 = .ok (.goto 11, 3) := by decide +kernel
theorem dMD_edge_70 : decode cMD_edge 70 = .ok (.aload_n 0, 1) := by decide +kernel
theorem dMD_edge_71 : decode cMD_edge 71 = .ok (.iload 4, 2) := by decide +kernel
theorem dMD_edge_73 : decode cMD_edge 73 = .ok (.iload 5, 2) := by decide +kernel
theorem dMD_edge_75 : decode cMD_edge 75 = .ok (.invokevirtual 158, 3) := by decide +kernel
theorem dMD_edge_78 : decode cMD_edge 78 = .ok (.ireturn, 1) := by decide +kernel
theorem dMD_empties_0 : decode cMD_empties 0 = .ok (.iconst 0, 1) := by decide +kernel
theorem dMD_empties_1 : decode cMD_empties 1 = .ok (.istore_n 1, 1) := by decide +kernel
theorem dMD_empties_2 : decode cMD_empties 2 = .ok (.iconst 0, 1) := by decide +kernel
theorem dMD_empties_3 : decode cMD_empties 3 = .ok (.istore_n 2, 1) := by decide +kernel
theorem dMD_empties_4 : decode cMD_empties 4 = .ok (.iload_n 2, 1) := by decide +kernel
theorem dMD_empties_5 : decode cMD_empties 5 = .ok (.bipush 12, 2) := by decide +kernel
theorem dMD_empties_7 : decode cMD_empties 7 = .ok (.if_icmp .ge 124, 3) := by decide +kernel
theorem dMD_empties_10 : decode cMD_empties 10 = .ok (.iload_n 2, 1) := by decide +kernel
theorem dMD_empties_11 : decode cMD_empties 11 = .ok (.aload_n 0, 1) := by decide +kernel
theorem dMD_empties_12 : decode cMD_empties 12 = .ok (.invokevirtual 113, 3) := by decide +kernel
theorem dMD_empties_15 : decode cMD_empties 15 = .ok (.if_icmp .ge 7, 3) := by decide +kernel
theorem dMD_empties_18 : decode cMD_empties 18 = .ok (.iconst 1, 1) := by decide +kernel
theorem dMD_empties_19 : decode cMD_empties 19 = .ok (.goto 4, 3) := by decide +kernel
theorem dMD_empties_22 : decode cMD_empties 22 = .ok (.iconst 0, 1) := by decide +kernel
theorem dMD_empties_23 : decode cMD_empties 23 = .ok (.istore_n 3, 1) := by decide +kernel
theorem dMD_empties_24 : decode cMD_empties 24 = .ok (.iload_n 2, 1) := by decide +kernel
theorem dMD_empties_25 : decode cMD_empties 25 = .ok (.aload_n 0, 1) := by decide +kernel
theorem dMD_empties_26 : decode cMD_empties 26 = .ok (.invokevirtual 117, 3) := by decide +kernel
theorem dMD_empties_29 : decode cMD_empties 29 = .ok (.if_icmp .ge 7, 3) := by decide +kernel
theorem dMD_empties_32 : decode cMD_empties 32 = .ok (.iconst 1, 1) := by decide +kernel
theorem dMD_empties_33 : decode cMD_empties 33 = .ok (.goto 4, 3) := by decide +kernel
theorem dMD_empties_36 : decode cMD_empties 36 = .ok (.iconst 0, 1) := by decide +kernel
theorem dMD_empties_37 : decode cMD_empties 37 = .ok (.istore 4, 2) := by decide +kernel
theorem dMD_empties_39 : decode cMD_empties 39 = .ok (.iconst 0, 1) := by decide +kernel
theorem dMD_empties_40 : decode cMD_empties 40 = .ok (.istore 5, 2) := by decide +kernel
theorem dMD_empties_42 : decode cMD_empties 42 = .ok (.iload 5, 2) := by decide +kernel
theorem dMD_empties_44 : decode cMD_empties 44 = .ok (.aload_n 0, 1) := by decide +kernel
theorem dMD_empties_45 : decode cMD_empties 45 = .ok (.getfield 72, 3) := by decide +kernel
theorem dMD_empties_48 : decode cMD_empties 48 = .ok (.if_icmp .ge 53, 3) := by decide +kernel
theorem dMD_empties_51 : decode cMD_empties 51 = .ok (.iload_n 3, 1) := by decide +kernel
theorem dMD_empties_52 : decode cMD_empties 52 = .ok (.ifCond .eq 18, 3) := by decide +kernel
theorem dMD_empties_55 : decode cMD_empties 55 = .ok (.aload_n 0, 1) := by decide +kernel
theorem dMD_empties_56 : decode cMD_empties 56 = .ok (.getfield 20, 3) := by decide +kernel
theorem dMD_empties_59 : decode cMD_empties 59 = .ok (.iload 5, 2) := by decide +kernel
theorem dMD_empties_61 : decode cMD_empties 61 = .ok (.iaload, 1) := by decide +kernel
theorem dMD_empties_62 : decode cMD_empties 62 = .ok (.iload_n 2, 1) := by decide +kernel
theorem dMD_empties_63 : decode cMD_empties 63 = .ok (.if_icmp .eq 7, 3) := by decide +kernel
theorem dMD_empties_66 : decode cMD_empties 66 = .ok (.iconst 1, 1) := by decide +kernel
theorem dMD_empties_67 : decode cMD_empties 67 = .ok (.goto 4, 3) := by decide +kernel
theorem dMD_empties_70 : decode cMD_empties 70 = .ok (.iconst 0, 1) := by decide +kernel
theorem dMD_empties_71 : decode cMD_empties 71 = .ok (.istore_n 3, 1) := by decide +kernel
theorem dMD_empties_72 : decode cMD_empties 72 = .ok (.iload 4, 2) := by decide +kernel
theorem dMD_empties_74 : decode cMD_empties 74 = .ok (.ifCond .eq 18, 3) := by decide +kernel
theorem dMD_empties_77 : decode cMD_empties 77 = .ok (.aload_n 0, 1) := by decide +kernel
theorem dMD_empties_78 : decode cMD_empties 78 = .ok (.getfield 23, 3) := by decide +kernel
theorem dMD_empties_81 : decode cMD_empties 81 = .ok (.iload 5, 2) := by decide +kernel
theorem dMD_empties_83 : decode cMD_empties 83 = .ok (.iaload, 1) := by decide +kernel
theorem dMD_empties_84 : decode cMD_empties 84 = .ok (.iload_n 2, 1) := by decide +kernel
theorem dMD_empties_85 : decode cMD_empties 85 = .ok (.if_icmp .eq 7, 3) := by decide +kernel
theorem dMD_empties_88 : decode cMD_empties 88 = .ok (.iconst 1, 1) := by decide +kernel
theorem dMD_empties_89 : decode cMD_empties 89 = .ok (.goto 4, 3) := by decide +kernel
theorem dMD_empties_92 : decode cMD_empties 92 = .ok (.iconst 0, 1) := by decide +kernel
theorem dMD_empties_93 : decode cMD_empties 93 = .ok (.istore 4, 2) := by decide +kernel
theorem dMD_empties_95 : decode cMD_empties 95 = .ok (.iinc 5 1, 3) := by decide +kernel
theorem dMD_empties_98 : decode cMD_empties 98 = .ok (.goto (-56), 3) := by decide +kernel
theorem dMD_empties_101 : decode cMD_empties 101 = .ok (.iload_n 1, 1) := by decide +kernel
theorem dMD_empties_102 : decode cMD_empties 102 = .ok (.iload_n 3, 1) := by decide +kernel
theorem dMD_empties_103 : decode cMD_empties 103 = .ok (.ifCond .eq 7, 3) := by decide +kernel
theorem dMD_empties_106 : decode cMD_empties 106 = .ok (.iconst 1, 1) := by decide +kernel
theorem dMD_empties_107 : decode cMD_empties 107 = .ok (.goto 4, 3) := by decide +kernel
theorem dMD_empties_110 : decode cMD_empties 110 = .ok (.iconst 0, 1) := by decide +kernel
theorem dMD_empties_111 : decode cMD_empties 111 = .ok (.iadd, 1) := by decide +kernel
theorem dMD_empties_112 : decode cMD_empties 112 = .ok (.iload 4, 2) := by decide +kernel
theorem dMD_empties_114 : decode cMD_empties 114 = .ok (.ifCond .eq 8, 3) := by decide +kernel
theorem dMD_empties_117 : decode cMD_empties 117 = .ok (.bipush 100, 2) := by decide +kernel
theorem dMD_empties_119 : decode cMD_empties 119 = .ok (.goto 4, 3) := by decide +kernel
theorem dMD_empties_122 : decode cMD_empties 122 = .ok (.iconst 0, 1) := by decide +kernel
theorem dMD_empties_123 : decode cMD_empties 123 = .ok (.iadd, 1) := by decide +kernel
theorem dMD_empties_124 : decode cMD_empties 124 = .ok (.istore_n 1, 1) := by decide +kernel
theorem dMD_empties_125 : decode cMD_empties 125 = .ok (.iinc 2 1, 3) := by decide +kernel
theorem dMD_empties_128 : decode cMD_empties 128 = .ok (.goto (-124), 3) := by decide +kernel
theorem dMD_empties_131 : decode cMD_empties 131 = .ok (.iload_n 1, 1) := by decide +kernel
theorem dMD_empties_132 : decode cMD_empties 132 = .ok (.ireturn, 1) := by decide +kernel
theorem dMD_endOf_0 : decode cMD_endOf 0 = .ok (.aload_n 0, 1) := by decide +kernel
theorem dMD_endOf_1 : decode cMD_endOf 1 = .ok (.getfield 13, 3) := by decide +kernel
theorem dMD_endOf_4 : decode cMD_endOf 4 = .ok (.iload_n 1, 1) := by decide +kernel
theorem dMD_endOf_5 : decode cMD_endOf 5 = .ok (.iaload, 1) := by decide +kernel
theorem dMD_endOf_6 : decode cMD_endOf 6 = .ok (.aload_n 0, 1) := by decide +kernel
theorem dMD_endOf_7 : decode cMD_endOf 7 = .ok (.getfield 17, 3) := by decide +kernel
theorem dMD_endOf_10 : decode cMD_endOf 10 = .ok (.iload_n 1, 1) := by decide +kernel
theorem dMD_endOf_11 : decode cMD_endOf 11 = .ok (.iaload, 1) := by decide +kernel
theorem dMD_endOf_12 : decode cMD_endOf 12 = .ok (.iadd, 1) := by decide +kernel
theorem dMD_endOf_13 : decode cMD_endOf 13 = .ok (.istore_n 2, 1) := by decide +kernel
theorem dMD_endOf_14 : decode cMD_endOf 14 = .ok (.iconst 0, 1) := by decide +kernel
theorem dMD_endOf_15 : decode cMD_endOf 15 = .ok (.istore_n 3, 1) := by decide +kernel
theorem dMD_endOf_16 : decode cMD_endOf 16 = .ok (.iload_n 3, 1) := by decide +kernel
theorem dMD_endOf_17 : decode cMD_endOf 17 = .ok (.aload_n 0, 1) := by decide +kernel
theorem dMD_endOf_18 : decode cMD_endOf 18 = .ok (.getfield 72, 3) := by decide +kernel
theorem dMD_endOf_21 : decode cMD_endOf 21 = .ok (.if_icmp .ge 60, 3) := by decide +kernel
theorem dMD_endOf_24 : decode cMD_endOf 24 = .ok (.aload_n 0, 1) := by decide +kernel
theorem dMD_endOf_25 : decode cMD_endOf 25 = .ok (.getfield 23, 3) := by decide +kernel
theorem dMD_endOf_28 : decode cMD_endOf 28 = .ok (.iload_n 3, 1) := by decide +kernel
theorem dMD_endOf_29 : decode cMD_endOf 29 = .ok (.iaload, 1) := by decide +kernel
theorem dMD_endOf_30 : decode cMD_endOf 30 = .ok (.aload_n 0, 1) := by decide +kernel
theorem dMD_endOf_31 : decode cMD_endOf 31 = .ok (.getfield 29, 3) := by decide +kernel
theorem dMD_endOf_34 : decode cMD_endOf 34 = .ok (.iload_n 3, 1) := by decide +kernel
theorem dMD_endOf_35 : decode cMD_endOf 35 = .ok (.iaload, 1) := by decide +kernel
theorem dMD_endOf_36 : decode cMD_endOf 36 = .ok (.ifCond .le 12, 3) := by decide +kernel
theorem dMD_endOf_39 : decode cMD_endOf 39 = .ok (.aload_n 0, 1) := by decide +kernel
theorem dMD_endOf_40 : decode cMD_endOf 40 = .ok (.getfield 29, 3) := by decide +kernel
theorem dMD_endOf_43 : decode cMD_endOf 43 = .ok (.iload_n 3, 1) := by decide +kernel
theorem dMD_endOf_44 : decode cMD_endOf 44 = .ok (.iaload, 1) := by decide +kernel
theorem dMD_endOf_45 : decode cMD_endOf 45 = .ok (.goto 4, 3) := by decide +kernel
theorem dMD_endOf_48 : decode cMD_endOf 48 = .ok (.iconst 1, 1) := by decide +kernel
theorem dMD_endOf_49 : decode cMD_endOf 49 = .ok (.iadd, 1) := by decide +kernel
theorem dMD_endOf_50 : decode cMD_endOf 50 = .ok (.istore 4, 2) := by decide +kernel
theorem dMD_endOf_52 : decode cMD_endOf 52 = .ok (.aload_n 0, 1) := by decide +kernel
theorem dMD_endOf_53 : decode cMD_endOf 53 = .ok (.getfield 32, 3) := by decide +kernel
theorem dMD_endOf_56 : decode cMD_endOf 56 = .ok (.iload_n 3, 1) := by decide +kernel
theorem dMD_endOf_57 : decode cMD_endOf 57 = .ok (.iaload, 1) := by decide +kernel
theorem dMD_endOf_58 : decode cMD_endOf 58 = .ok (.iload_n 1, 1) := by decide +kernel
theorem dMD_endOf_59 : decode cMD_endOf 59 = .ok (.if_icmp .ne 14, 3) := by decide +kernel
theorem dMD_endOf_62 : decode cMD_endOf 62 = .ok (.iload 4, 2) := by decide +kernel
theorem dMD_endOf_64 : decode cMD_endOf 64 = .ok (.iload_n 2, 1) := by decide +kernel
theorem dMD_endOf_65 : decode cMD_endOf 65 = .ok (.if_icmp .le 8, 3) := by decide +kernel
theorem dMD_endOf_68 : decode cMD_endOf 68 = .ok (.iload 4, 2) := by decide +kernel
theorem dMD_endOf_70 : decode cMD_endOf 70 = .ok (.goto 4, 3) := by decide +kernel
theorem dMD_endOf_73 : decode cMD_endOf 73 = .ok (.iload_n 2, 1) := by decide +kernel
theorem dMD_endOf_74 : decode cMD_endOf 74 = .ok (.istore_n 2, 1) := by decide +kernel
theorem dMD_endOf_75 : decode cMD_endOf 75 = .ok (.iinc 3 1, 3) := by decide +kernel
theorem dMD_endOf_78 : decode cMD_endOf 78 = .ok (.goto (-62), 3) := by decide +kernel
theorem dMD_endOf_81 : decode cMD_endOf 81 = .ok (.iload_n 2, 1) := by decide +kernel
theorem dMD_endOf_82 : decode cMD_endOf 82 = .ok (.ireturn, 1) := by decide +kernel
theorem dMD_findHeights_0 : decode cMD_findHeights 0 = .ok (.iconst 0, 1) := by decide +kernel
theorem dMD_findHeights_1 : decode cMD_findHeights 1 = .ok (.istore_n 1, 1) := by decide +kernel
theorem dMD_findHeights_2 : decode cMD_findHeights 2 = .ok (.iload_n 1, 1) := by decide +kernel
theorem dMD_findHeights_3 : decode cMD_findHeights 3 = .ok (.bipush 12, 2) := by decide +kernel
theorem dMD_findHeights_5 : decode cMD_findHeights 5 = .ok (.if_icmp .ge 16, 3) := by decide +kernel
theorem dMD_findHeights_8 : decode cMD_findHeights 8 = .ok (.aload_n 0, 1) := by decide +kernel
theorem dMD_findHeights_9 : decode cMD_findHeights 9 = .ok (.getfield 62, 3) := by decide +kernel
theorem dMD_findHeights_12 : decode cMD_findHeights 12 = .ok (.iload_n 1, 1) := by decide +kernel
theorem dMD_findHeights_13 : decode cMD_findHeights 13 = .ok (.iconst 0, 1) := by decide +kernel
theorem dMD_findHeights_14 : decode cMD_findHeights 14 = .ok (.iastore, 1) := by decide +kernel
theorem dMD_findHeights_15 : decode cMD_findHeights 15 = .ok (.iinc 1 1, 3) := by decide +kernel
theorem dMD_findHeights_18 : decode cMD_findHeights 18 = .ok (.goto (-16), 3) := by decide +kernel
theorem dMD_findHeights_21 : decode cMD_findHeights 21 = .ok (.iconst 1, 1) := by decide +kernel
theorem dMD_findHeights_22 : decode cMD_findHeights 22 = .ok (.istore_n 1, 1) := by decide +kernel
theorem dMD_findHeights_23 : decode cMD_findHeights 23 = .ok (.iload_n 1, 1) := by decide +kernel
theorem dMD_findHeights_24 : decode cMD_findHeights 24 = .ok (.bipush 13, 2) := by decide +kernel
theorem dMD_findHeights_26 : decode cMD_findHeights 26 = .ok (.if_icmp .ge 134, 3) := by decide +kernel
theorem dMD_findHeights_29 : decode cMD_findHeights 29 = .ok (.iconst 0, 1) := by decide +kernel
theorem dMD_findHeights_30 : decode cMD_findHeights 30 = .ok (.istore_n 2, 1) := by decide +kernel
theorem dMD_findHeights_31 : decode cMD_findHeights 31 = .ok (.iload_n 2, 1) := by decide +kernel
theorem dMD_findHeights_32 : decode cMD_findHeights 32 = .ok (.aload_n 0, 1) := by decide +kernel
theorem dMD_findHeights_33 : decode cMD_findHeights 33 = .ok (.getfield 72, 3) := by decide +kernel
theorem dMD_findHeights_36 : decode cMD_findHeights 36 = .ok (.if_icmp .ge 118, 3) := by decide +kernel
theorem dMD_findHeights_39 : decode cMD_findHeights 39 = .ok (.aload_n 0, 1) := by decide +kernel
theorem dMD_findHeights_40 : decode cMD_findHeights 40 = .ok (.getfield 23, 3) := by decide +kernel
theorem dMD_findHeights_43 : decode cMD_findHeights 43 = .ok (.iload_n 2, 1) := by decide +kernel
theorem dMD_findHeights_44 : decode cMD_findHeights 44 = .ok (.iaload, 1) := by decide +kernel
theorem dMD_findHeights_45 : decode cMD_findHeights 45 = .ok (.istore_n 3, 1) := by decide +kernel
theorem dMD_findHeights_46 : decode cMD_findHeights 46 = .ok (.iload_n 1, 1) := by decide +kernel
theorem dMD_findHeights_47 : decode cMD_findHeights 47 = .ok (.iconst 1, 1) := by decide +kernel
theorem dMD_findHeights_48 : decode cMD_findHeights 48 = .ok (.if_icmp .ne 36, 3) := by decide +kernel
theorem dMD_findHeights_51 : decode cMD_findHeights 51 = .ok (.aload_n 0, 1) := by decide +kernel
theorem dMD_findHeights_52 : decode cMD_findHeights 52 = .ok (.iload_n 2, 1) := by decide +kernel
theorem dMD_findHeights_53 : decode cMD_findHeights 53 = .ok (.invokevirtual 102, 3) := by decide +kernel
theorem dMD_findHeights_56 : decode cMD_findHeights 56 = .ok (.iconst 1, 1) := by decide +kernel
theorem dMD_findHeights_57 : decode cMD_findHeights 57 = .ok (.if_icmp .ne 27, 3) := by decide +kernel
theorem dMD_findHeights_60 : decode cMD_findHeights 60 = .ok (.aload_n 0, 1) := by decide +kernel
theorem dMD_findHeights_61 : decode cMD_findHeights 61 = .ok (.getfield 62, 3) := by decide +kernel
theorem dMD_findHeights_64 : decode cMD_findHeights 64 = .ok (.iload_n 3, 1) := by decide +kernel
theorem dMD_findHeights_65 : decode cMD_findHeights 65 = .ok (.aload_n 0, 1) := by decide +kernel
theorem dMD_findHeights_66 : decode cMD_findHeights 66 = .ok (.getfield 62, 3) := by decide +kernel
theorem dMD_findHeights_69 : decode cMD_findHeights 69 = .ok (.iload_n 3, 1) := by decide +kernel
theorem dMD_findHeights_70 : decode cMD_findHeights 70 = .ok (.iaload, 1) := by decide +kernel
theorem dMD_findHeights_71 : decode cMD_findHeights 71 = .ok (.aload_n 0, 1) := by decide +kernel
theorem dMD_findHeights_72 : decode cMD_findHeights 72 = .ok (.getfield 41, 3) := by decide +kernel
theorem dMD_findHeights_75 : decode cMD_findHeights 75 = .ok (.iload_n 2, 1) := by decide +kernel
theorem dMD_findHeights_76 : decode cMD_findHeights 76 = .ok (.iaload, 1) := by decide +kernel
theorem dMD_findHeights_77 : decode cMD_findHeights 77 = .ok (.invokestatic 121, 3) := by decide +kernel
theorem dMD_findHeights_80 : decode cMD_findHeights 80 = .ok (.iastore, 1) := by decide +kernel
theorem dMD_findHeights_81 : decode cMD_findHeights 81 = .ok (.goto 67, 3) := by decide +kernel
theorem dMD_findHeights_84 : decode cMD_findHeights 84 = .ok (.aload_n 0, 1) := by decide +kernel
theorem dMD_findHeights_85 : decode cMD_findHeights 85 = .ok (.iload_n 2, 1) := by decide +kernel
theorem dMD_findHeights_86 : decode cMD_findHeights 86 = .ok (.invokevirtual 102, 3) := by decide +kernel
theorem dMD_findHeights_89 : decode cMD_findHeights 89 = .ok (.iload_n 1, 1) := by decide +kernel
theorem dMD_findHeights_90 : decode cMD_findHeights 90 = .ok (.if_icmp .ne 58, 3) := by decide +kernel
theorem dMD_findHeights_93 : decode cMD_findHeights 93 = .ok (.aload_n 0, 1) := by decide +kernel
theorem dMD_findHeights_94 : decode cMD_findHeights 94 = .ok (.getfield 41, 3) := by decide +kernel
theorem dMD_findHeights_97 : decode cMD_findHeights 97 = .ok (.iload_n 2, 1) := by decide +kernel
theorem dMD_findHeights_98 : decode cMD_findHeights 98 = .ok (.iaload, 1) := by decide +kernel
theorem dMD_findHeights_99 : decode cMD_findHeights 99 = .ok (.aload_n 0, 1) := by decide +kernel
theorem dMD_findHeights_100 : decode cMD_findHeights 100 = .ok (.getfield 62, 3) := by decide +kernel
theorem dMD_findHeights_103 : decode cMD_findHeights 103 = .ok (.iload_n 3, 1) := by decide +kernel
theorem dMD_findHeights_104 : decode cMD_findHeights 104 = .ok (.iload_n 3, 1) := by decide +kernel
theorem dMD_findHeights_105 : decode cMD_findHeights 105 = .ok (.iload_n 1, 1) := by decide +kernel
theorem dMD_findHeights_106 : decode cMD_findHeights 106 = .ok (.iadd, 1) := by decide +kernel
theorem dMD_findHeights_107 : decode cMD_findHeights 107 = .ok (.invokestatic 128, 3) := by decide +kernel
theorem dMD_findHeights_110 : decode cMD_findHeights 110 = .ok (.isub, 1) := by decide +kernel
theorem dMD_findHeights_111 : decode cMD_findHeights 111 = .ok (.aload_n 0, 1) := by decide +kernel
theorem dMD_findHeights_112 : decode cMD_findHeights 112 = .ok (.getfield 95, 3) := by decide +kernel
theorem dMD_findHeights_115 : decode cMD_findHeights 115 = .ok (.iload_n 1, 1) := by decide +kernel
theorem dMD_findHeights_116 : decode cMD_findHeights 116 = .ok (.iconst 1, 1) := by decide +kernel
theorem dMD_findHeights_117 : decode cMD_findHeights 117 = .ok (.isub, 1) := by decide +kernel
theorem dMD_findHeights_118 : decode cMD_findHeights 118 = .ok (.imul, 1) := by decide +kernel
theorem dMD_findHeights_119 : decode cMD_findHeights 119 = .ok (.isub, 1) := by decide +kernel
theorem dMD_findHeights_120 : decode cMD_findHeights 120 = .ok (.istore 4, 2) := by decide +kernel
theorem dMD_findHeights_122 : decode cMD_findHeights 122 = .ok (.aload_n 0, 1) := by decide +kernel
theorem dMD_findHeights_123 : decode cMD_findHeights 123 = .ok (.aload_n 0, 1) := by decide +kernel
theorem dMD_findHeights_124 : decode cMD_findHeights 124 = .ok (.getfield 62, 3) := by decide +kernel
theorem dMD_findHeights_127 : decode cMD_findHeights 127 = .ok (.invokevirtual 124, 3) := by decide +kernel
theorem dMD_findHeights_130 : decode cMD_findHeights 130 = .ok (.aload_n 0, 1) := by decide +kernel
theorem dMD_findHeights_131 : decode cMD_findHeights 131 = .ok (.iconst 0, 1) := by decide +kernel
theorem dMD_findHeights_132 : decode cMD_findHeights 132 = .ok (.iload 4, 2) := by decide +kernel
theorem dMD_findHeights_134 : decode cMD_findHeights 134 = .ok (.invokestatic 121, 3) := by decide +kernel
theorem dMD_findHeights_137 : decode cMD_findHeights 137 = .ok (.aload_n 0, 1) := by decide +kernel
theorem dMD_findHeights_138 : decode cMD_findHeights 138 = .ok (.getfield 62, 3) := by decide +kernel
theorem dMD_findHeights_141 : decode cMD_findHeights 141 = .ok (.iload_n 3, 1) := by decide +kernel
theorem dMD_findHeights_142 : decode cMD_findHeights 142 = .ok (.iload_n 3, 1) := by decide +kernel
theorem dMD_findHeights_143 : decode cMD_findHeights 143 = .ok (.iload_n 1, 1) := by decide +kernel
theorem dMD_findHeights_144 : decode cMD_findHeights 144 = .ok (.iadd, 1) := by decide +kernel
theorem dMD_findHeights_145 : decode cMD_findHeights 145 = .ok (.invokevirtual 132, 3) := by decide +kernel
theorem dMD_findHeights_148 : decode cMD_findHeights 148 = .ok (.iinc 2 1, 3) := by decide +kernel
theorem dMD_findHeights_151 : decode cMD_findHeights 151 = .ok (.goto (-120), 3) := by decide +kernel
theorem dMD_findHeights_154 : decode cMD_findHeights 154 = .ok (.iinc 1 1, 3) := by decide +kernel
theorem dMD_findHeights_157 : decode cMD_findHeights 157 = .ok (.goto (-134), 3) := by decide +kernel
theorem dMD_findHeights_160 : decode cMD_findHeights 160 = .ok (.return_, 1) := by decide +kernel
theorem dMD_findWidths_0 : decode cMD_findWidths 0 = .ok (.aload_n 0, 1) := by decide +kernel
theorem dMD_findWidths_1 : decode cMD_findWidths 1 = .ok (.invokevirtual 143, 3) := by decide +kernel
theorem dMD_findWidths_4 : decode cMD_findWidths 4 = .ok (.aload_n 0, 1) := by decide +kernel
theorem dMD_findWidths_5 : decode cMD_findWidths 5 = .ok (.getfield 98, 3) := by decide +kernel
theorem dMD_findWidths_8 : decode cMD_findWidths 8 = .ok (.ifCond .eq 8, 3) := by decide +kernel
theorem dMD_findWidths_11 : decode cMD_findWidths 11 = .ok (.aload_n 0, 1) := by decide +kernel
theorem dMD_findWidths_12 : decode cMD_findWidths 12 = .ok (.invokevirtual 146, 3) := by decide +kernel
theorem dMD_findWidths_15 : decode cMD_findWidths 15 = .ok (.return_, 1) := by decide +kernel
theorem dMD_findWidths_16 : decode cMD_findWidths 16 = .ok (.aload_n 0, 1) := by decide +kernel
theorem dMD_findWidths_17 : decode cMD_findWidths 17 = .ok (.invokevirtual 113, 3) := by decide +kernel
theorem dMD_findWidths_20 : decode cMD_findWidths 20 = .ok (.istore_n 1, 1) := by decide +kernel
theorem dMD_findWidths_21 : decode cMD_findWidths 21 = .ok (.aload_n 0, 1) := by decide +kernel
theorem dMD_findWidths_22 : decode cMD_findWidths 22 = .ok (.getfield 53, 3) := by decide +kernel
theorem dMD_findWidths_25 : decode cMD_findWidths 25 = .ok (.iconst 0, 1) := by decide +kernel
theorem dMD_findWidths_26 : decode cMD_findWidths 26 = .ok (.iload_n 1, 1) := by decide +kernel
theorem dMD_findWidths_27 : decode cMD_findWidths 27 = .ok (.invokestatic 128, 3) := by decide +kernel
theorem dMD_findWidths_30 : decode cMD_findWidths 30 = .ok (.istore_n 2, 1) := by decide +kernel
theorem dMD_findWidths_31 : decode cMD_findWidths 31 = .ok (.aload_n 0, 1) := by decide +kernel
theorem dMD_findWidths_32 : decode cMD_findWidths 32 = .ok (.getfield 56, 3) := by decide +kernel
theorem dMD_findWidths_35 : decode cMD_findWidths 35 = .ok (.iconst 0, 1) := by decide +kernel
theorem dMD_findWidths_36 : decode cMD_findWidths 36 = .ok (.iload_n 1, 1) := by decide +kernel
theorem dMD_findWidths_37 : decode cMD_findWidths 37 = .ok (.invokestatic 128, 3) := by decide +kernel
theorem dMD_findWidths_40 : decode cMD_findWidths 40 = .ok (.istore_n 3, 1) := by decide +kernel
theorem dMD_findWidths_41 : decode cMD_findWidths 41 = .ok (.aload_n 0, 1) := by decide +kernel
theorem dMD_findWidths_42 : decode cMD_findWidths 42 = .ok (.invokevirtual 140, 3) := by decide +kernel
theorem dMD_findWidths_45 : decode cMD_findWidths 45 = .ok (.iload_n 3, 1) := by decide +kernel
theorem dMD_findWidths_46 : decode cMD_findWidths 46 = .ok (.if_icmp .le 7, 3) := by decide +kernel
theorem dMD_findWidths_49 : decode cMD_findWidths 49 = .ok (.iconst 1, 1) := by decide +kernel
theorem dMD_findWidths_50 : decode cMD_findWidths 50 = .ok (.goto 4, 3) := by decide +kernel
theorem dMD_findWidths_53 : decode cMD_findWidths 53 = .ok (.iconst 0, 1) := by decide +kernel
theorem dMD_findWidths_54 : decode cMD_findWidths 54 = .ok (.istore 4, 2) := by decide +kernel
theorem dMD_findWidths_56 : decode cMD_findWidths 56 = .ok (.iconst 0, 1) := by decide +kernel
theorem dMD_findWidths_57 : decode cMD_findWidths 57 = .ok (.istore 5, 2) := by decide +kernel
theorem dMD_findWidths_59 : decode cMD_findWidths 59 = .ok (.iload 5, 2) := by decide +kernel
theorem dMD_findWidths_61 : decode cMD_findWidths 61 = .ok (.bipush 12, 2) := by decide +kernel
theorem dMD_findWidths_63 : decode cMD_findWidths 63 = .ok (.if_icmp .ge 75, 3) := by decide +kernel
theorem dMD_findWidths_66 : decode cMD_findWidths 66 = .ok (.aload_n 0, 1) := by decide +kernel
theorem dMD_findWidths_67 : decode cMD_findWidths 67 = .ok (.getfield 59, 3) := by decide +kernel
theorem dMD_findWidths_70 : decode cMD_findWidths 70 = .ok (.iload 5, 2) := by decide +kernel
theorem dMD_findWidths_72 : decode cMD_findWidths 72 = .ok (.iload 4, 2) := by decide +kernel
theorem dMD_findWidths_74 : decode cMD_findWidths 74 = .ok (.ifCond .eq 13, 3) := by decide +kernel
theorem dMD_findWidths_77 : decode cMD_findWidths 77 = .ok (.aload_n 0, 1) := by decide +kernel
theorem dMD_findWidths_78 : decode cMD_findWidths 78 = .ok (.getfield 56, 3) := by decide +kernel
theorem dMD_findWidths_81 : decode cMD_findWidths 81 = .ok (.iload 5, 2) := by decide +kernel
theorem dMD_findWidths_83 : decode cMD_findWidths 83 = .ok (.iaload, 1) := by decide +kernel
theorem dMD_findWidths_84 : decode cMD_findWidths 84 = .ok (.goto 10, 3) := by decide +kernel
theorem dMD_findWidths_87 : decode cMD_findWidths 87 = .ok (.aload_n 0, 1) := by decide +kernel
theorem dMD_findWidths_88 : decode cMD_findWidths 88 = .ok (.getfield 53, 3) := by decide +kernel
theorem dMD_findWidths_91 : decode cMD_findWidths 91 = .ok (.iload 5, 2) := by decide +kernel
theorem dMD_findWidths_93 : decode cMD_findWidths 93 = .ok (.iaload, 1) := by decide +kernel
theorem dMD_findWidths_94 : decode cMD_findWidths 94 = .ok (.iastore, 1) := by decide +kernel
theorem dMD_findWidths_95 : decode cMD_findWidths 95 = .ok (.aload_n 0, 1) := by decide +kernel
theorem dMD_findWidths_96 : decode cMD_findWidths 96 = .ok (.getfield 69, 3) := by decide +kernel
theorem dMD_findWidths_99 : decode cMD_findWidths 99 = .ok (.iload 5, 2) := by decide +kernel
theorem dMD_findWidths_101 : decode cMD_findWidths 101 = .ok (.iload 4, 2) := by decide +kernel
theorem dMD_findWidths_103 : decode cMD_findWidths 103 = .ok (.ifCond .eq 13, 3) := by decide +kernel
theorem dMD_findWidths_106 : decode cMD_findWidths 106 = .ok (.aload_n 0, 1) := by decide +kernel
theorem dMD_findWidths_107 : decode cMD_findWidths 107 = .ok (.getfield 56, 3) := by decide +kernel
theorem dMD_findWidths_110 : decode cMD_findWidths 110 = .ok (.iload 5, 2) := by decide +kernel
theorem dMD_findWidths_112 : decode cMD_findWidths 112 = .ok (.iaload, 1) := by decide +kernel
theorem dMD_findWidths_113 : decode cMD_findWidths 113 = .ok (.goto 18, 3) := by decide +kernel
theorem dMD_findWidths_116 : decode cMD_findWidths 116 = .ok (.aload_n 0, 1) := by decide +kernel
theorem dMD_findWidths_117 : decode cMD_findWidths 117 = .ok (.getfield 56, 3) := by decide +kernel
theorem dMD_findWidths_120 : decode cMD_findWidths 120 = .ok (.iload 5, 2) := by decide +kernel
theorem dMD_findWidths_122 : decode cMD_findWidths 122 = .ok (.iaload, 1) := by decide +kernel
theorem dMD_findWidths_123 : decode cMD_findWidths 123 = .ok (.aload_n 0, 1) := by decide +kernel
theorem dMD_findWidths_124 : decode cMD_findWidths 124 = .ok (.getfield 53, 3) := by decide +kernel
theorem dMD_findWidths_127 : decode cMD_findWidths 127 = .ok (.iload 5, 2) := by decide +kernel
theorem dMD_findWidths_129 : decode cMD_findWidths 129 = .ok (.iaload, 1) := by decide +kernel
theorem dMD_findWidths_130 : decode cMD_findWidths 130 = .ok (.isub, 1) := by decide +kernel
theorem dMD_findWidths_131 : decode cMD_findWidths 131 = .ok (.iastore, 1) := by decide +kernel
theorem dMD_findWidths_132 : decode cMD_findWidths 132 = .ok (.iinc 5 1, 3) := by decide +kernel
theorem dMD_findWidths_135 : decode cMD_findWidths 135 = .ok (.goto (-76), 3) := by decide +kernel
theorem dMD_findWidths_138 : decode cMD_findWidths 138 = .ok (.aload_n 0, 1) := by decide +kernel
theorem dMD_findWidths_139 : decode cMD_findWidths 139 = .ok (.invokevirtual 140, 3) := by decide +kernel
theorem dMD_findWidths_142 : decode cMD_findWidths 142 = .ok (.iload_n 2, 1) := by decide +kernel
theorem dMD_findWidths_143 : decode cMD_findWidths 143 = .ok (.if_icmp .le 28, 3) := by decide +kernel
theorem dMD_findWidths_146 : decode cMD_findWidths 146 = .ok (.aload_n 0, 1) := by decide +kernel
theorem dMD_findWidths_147 : decode cMD_findWidths 147 = .ok (.aload_n 0, 1) := by decide +kernel
theorem dMD_findWidths_148 : decode cMD_findWidths 148 = .ok (.invokevirtual 140, 3) := by decide +kernel
theorem dMD_findWidths_151 : decode cMD_findWidths 151 = .ok (.iload 4, 2) := by decide +kernel
theorem dMD_findWidths_153 : decode cMD_findWidths 153 = .ok (.ifCond .eq 7, 3) := by decide +kernel
theorem dMD_findWidths_156 : decode cMD_findWidths 156 = .ok (.iload_n 3, 1) := by decide +kernel
theorem dMD_findWidths_157 : decode cMD_findWidths 157 = .ok (.goto 4, 3) := by decide +kernel
theorem dMD_findWidths_160 : decode cMD_findWidths 160 = .ok (.iload_n 2, 1) := by decide +kernel
theorem dMD_findWidths_161 : decode cMD_findWidths 161 = .ok (.isub, 1) := by decide +kernel
theorem dMD_findWidths_162 : decode cMD_findWidths 162 = .ok (.aload_n 0, 1) := by decide +kernel
theorem dMD_findWidths_163 : decode cMD_findWidths 163 = .ok (.getfield 59, 3) := by decide +kernel
theorem dMD_findWidths_166 : decode cMD_findWidths 166 = .ok (.iconst 0, 1) := by decide +kernel
theorem dMD_findWidths_167 : decode cMD_findWidths 167 = .ok (.iload_n 1, 1) := by decide +kernel
theorem dMD_findWidths_168 : decode cMD_findWidths 168 = .ok (.invokevirtual 132, 3) := by decide +kernel
theorem dMD_findWidths_171 : decode cMD_findWidths 171 = .ok (.return_, 1) := by decide +kernel
theorem dMD_fixWidths_0 : decode cMD_fixWidths 0 = .ok (.aload_n 0, 1) := by decide +kernel
theorem dMD_fixWidths_1 : decode cMD_fixWidths 1 = .ok (.invokevirtual 113, 3) := by decide +kernel
theorem dMD_fixWidths_4 : decode cMD_fixWidths 4 = .ok (.istore_n 1, 1) := by decide +kernel
theorem dMD_fixWidths_5 : decode cMD_fixWidths 5 = .ok (.iconst 0, 1) := by decide +kernel
theorem dMD_fixWidths_6 : decode cMD_fixWidths 6 = .ok (.istore_n 2, 1) := by decide +kernel
theorem dMD_fixWidths_7 : decode cMD_fixWidths 7 = .ok (.iload_n 2, 1) := by decide +kernel
theorem dMD_fixWidths_8 : decode cMD_fixWidths 8 = .ok (.bipush 12, 2) := by decide +kernel
theorem dMD_fixWidths_10 : decode cMD_fixWidths 10 = .ok (.if_icmp .ge 23, 3) := by decide +kernel
theorem dMD_fixWidths_13 : decode cMD_fixWidths 13 = .ok (.aload_n 0, 1) := by decide +kernel
theorem dMD_fixWidths_14 : decode cMD_fixWidths 14 = .ok (.getfield 59, 3) := by decide +kernel
theorem dMD_fixWidths_17 : decode cMD_fixWidths 17 = .ok (.iload_n 2, 1) := by decide +kernel
theorem dMD_fixWidths_18 : decode cMD_fixWidths 18 = .ok (.iconst 0, 1) := by decide +kernel
theorem dMD_fixWidths_19 : decode cMD_fixWidths 19 = .ok (.iastore, 1) := by decide +kernel
theorem dMD_fixWidths_20 : decode cMD_fixWidths 20 = .ok (.aload_n 0, 1) := by decide +kernel
theorem dMD_fixWidths_21 : decode cMD_fixWidths 21 = .ok (.getfield 65, 3) := by decide +kernel
theorem dMD_fixWidths_24 : decode cMD_fixWidths 24 = .ok (.iload_n 2, 1) := by decide +kernel
theorem dMD_fixWidths_25 : decode cMD_fixWidths 25 = .ok (.iconst 0, 1) := by decide +kernel
theorem dMD_fixWidths_26 : decode cMD_fixWidths 26 = .ok (.bastore, 1) := by decide +kernel
theorem dMD_fixWidths_27 : decode cMD_fixWidths 27 = .ok (.iinc 2 1, 3) := by decide +kernel
theorem dMD_fixWidths_30 : decode cMD_fixWidths 30 = .ok (.goto (-23), 3) := by decide +kernel
theorem dMD_fixWidths_33 : decode cMD_fixWidths 33 = .ok (.iconst 0, 1) := by decide +kernel
theorem dMD_fixWidths_34 : decode cMD_fixWidths 34 = .ok (.istore_n 2, 1) := by decide +kernel
theorem dMD_fixWidths_35 : decode cMD_fixWidths 35 = .ok (.iload_n 2, 1) := by decide +kernel
theorem dMD_fixWidths_36 : decode cMD_fixWidths 36 = .ok (.aload_n 0, 1) := by decide +kernel
theorem dMD_fixWidths_37 : decode cMD_fixWidths 37 = .ok (.getfield 72, 3) := by decide +kernel
theorem dMD_fixWidths_40 : decode cMD_fixWidths 40 = .ok (.if_icmp .ge 140, 3) := by decide +kernel
theorem dMD_fixWidths_43 : decode cMD_fixWidths 43 = .ok (.iconst 0, 1) := by decide +kernel
theorem dMD_fixWidths_44 : decode cMD_fixWidths 44 = .ok (.aload_n 0, 1) := by decide +kernel
theorem dMD_fixWidths_45 : decode cMD_fixWidths 45 = .ok (.getfield 35, 3) := by decide +kernel
theorem dMD_fixWidths_48 : decode cMD_fixWidths 48 = .ok (.iload_n 2, 1) := by decide +kernel
theorem dMD_fixWidths_49 : decode cMD_fixWidths 49 = .ok (.iaload, 1) := by decide +kernel
theorem dMD_fixWidths_50 : decode cMD_fixWidths 50 = .ok (.aload_n 0, 1) := by decide +kernel
theorem dMD_fixWidths_51 : decode cMD_fixWidths 51 = .ok (.getfield 95, 3) := by decide +kernel
theorem dMD_fixWidths_54 : decode cMD_fixWidths 54 = .ok (.aload_n 0, 1) := by decide +kernel
theorem dMD_fixWidths_55 : decode cMD_fixWidths 55 = .ok (.getfield 26, 3) := by decide +kernel
theorem dMD_fixWidths_58 : decode cMD_fixWidths 58 = .ok (.iload_n 2, 1) := by decide +kernel
theorem dMD_fixWidths_59 : decode cMD_fixWidths 59 = .ok (.iaload, 1) := by decide +kernel
theorem dMD_fixWidths_60 : decode cMD_fixWidths 60 = .ok (.iconst 1, 1) := by decide +kernel
theorem dMD_fixWidths_61 : decode cMD_fixWidths 61 = .ok (.isub, 1) := by decide +kernel
theorem dMD_fixWidths_62 : decode cMD_fixWidths 62 = .ok (.imul, 1) := by decide +kernel
theorem dMD_fixWidths_63 : decode cMD_fixWidths 63 = .ok (.isub, 1) := by decide +kernel
theorem dMD_fixWidths_64 : decode cMD_fixWidths 64 = .ok (.invokestatic 121, 3) := by decide +kernel
theorem dMD_fixWidths_67 : decode cMD_fixWidths 67 = .ok (.istore_n 3, 1) := by decide +kernel
theorem dMD_fixWidths_68 : decode cMD_fixWidths 68 = .ok (.iconst 0, 1) := by decide +kernel
theorem dMD_fixWidths_69 : decode cMD_fixWidths 69 = .ok (.istore 4, 2) := by decide +kernel
theorem dMD_fixWidths_71 : decode cMD_fixWidths 71 = .ok (.iload 4, 2) := by decide +kernel
theorem dMD_fixWidths_73 : decode cMD_fixWidths 73 = .ok (.aload_n 0, 1) := by decide +kernel
theorem dMD_fixWidths_74 : decode cMD_fixWidths 74 = .ok (.getfield 26, 3) := by decide +kernel
theorem dMD_fixWidths_77 : decode cMD_fixWidths 77 = .ok (.iload_n 2, 1) := by decide +kernel
theorem dMD_fixWidths_78 : decode cMD_fixWidths 78 = .ok (.iaload, 1) := by decide +kernel
theorem dMD_fixWidths_79 : decode cMD_fixWidths 79 = .ok (.if_icmp .ge 95, 3) := by decide +kernel
theorem dMD_fixWidths_82 : decode cMD_fixWidths 82 = .ok (.aload_n 0, 1) := by decide +kernel
theorem dMD_fixWidths_83 : decode cMD_fixWidths 83 = .ok (.getfield 23, 3) := by decide +kernel
theorem dMD_fixWidths_86 : decode cMD_fixWidths 86 = .ok (.iload_n 2, 1) := by decide +kernel
theorem dMD_fixWidths_87 : decode cMD_fixWidths 87 = .ok (.iaload, 1) := by decide +kernel
theorem dMD_fixWidths_88 : decode cMD_fixWidths 88 = .ok (.ifCond .ne 86, 3) := by decide +kernel
theorem dMD_fixWidths_91 : decode cMD_fixWidths 91 = .ok (.aload_n 0, 1) := by decide +kernel
theorem dMD_fixWidths_92 : decode cMD_fixWidths 92 = .ok (.getfield 20, 3) := by decide +kernel
theorem dMD_fixWidths_95 : decode cMD_fixWidths 95 = .ok (.iload_n 2, 1) := by decide +kernel
theorem dMD_fixWidths_96 : decode cMD_fixWidths 96 = .ok (.iaload, 1) := by decide +kernel
theorem dMD_fixWidths_97 : decode cMD_fixWidths 97 = .ok (.iload 4, 2) := by decide +kernel
theorem dMD_fixWidths_99 : decode cMD_fixWidths 99 = .ok (.iadd, 1) := by decide +kernel
theorem dMD_fixWidths_100 : decode cMD_fixWidths 100 = .ok (.istore 5, 2) := by decide +kernel
theorem dMD_fixWidths_102 : decode cMD_fixWidths 102 = .ok (.iload_n 3, 1) := by decide +kernel
theorem dMD_fixWidths_103 : decode cMD_fixWidths 103 = .ok (.aload_n 0, 1) := by decide +kernel
theorem dMD_fixWidths_104 : decode cMD_fixWidths 104 = .ok (.getfield 26, 3) := by decide +kernel
theorem dMD_fixWidths_107 : decode cMD_fixWidths 107 = .ok (.iload_n 2, 1) := by decide +kernel
theorem dMD_fixWidths_108 : decode cMD_fixWidths 108 = .ok (.iaload, 1) := by decide +kernel
theorem dMD_fixWidths_109 : decode cMD_fixWidths 109 = .ok (.idiv, 1) := by decide +kernel
theorem dMD_fixWidths_110 : decode cMD_fixWidths 110 = .ok (.iload 4, 2) := by decide +kernel
theorem dMD_fixWidths_112 : decode cMD_fixWidths 112 = .ok (.iload_n 3, 1) := by decide +kernel
theorem dMD_fixWidths_113 : decode cMD_fixWidths 113 = .ok (.aload_n 0, 1) := by decide +kernel
theorem dMD_fixWidths_114 : decode cMD_fixWidths 114 = .ok (.getfield 26, 3) := by decide +kernel
theorem dMD_fixWidths_117 : decode cMD_fixWidths 117 = .ok (.iload_n 2, 1) := by decide +kernel
theorem dMD_fixWidths_118 : decode cMD_fixWidths 118 = .ok (.iaload, 1) := by decide +kernel
theorem dMD_fixWidths_119 : decode cMD_fixWidths 119 = .ok (.irem, 1) := by decide +kernel
theorem dMD_fixWidths_120 : decode cMD_fixWidths 120 = .ok (.if_icmp .ge 7, 3) := by decide +kernel
theorem dMD_fixWidths_123 : decode cMD_fixWidths 123 = .ok (.iconst 1, 1) := by decide +kernel
theorem dMD_fixWidths_124 : decode cMD_fixWidths 124 = .ok (.goto 4, 3) := by decide +kernel
theorem dMD_fixWidths_127 : decode cMD_fixWidths 127 = .ok (.iconst 0, 1) := by decide +kernel
theorem dMD_fixWidths_128 : decode cMD_fixWidths 128 = .ok (.iadd, 1) := by decide +kernel
theorem dMD_fixWidths_129 : decode cMD_fixWidths 129 = .ok (.istore 6, 2) := by decide +kernel
theorem dMD_fixWidths_131 : decode cMD_fixWidths 131 = .ok (.aload_n 0, 1) := by decide +kernel
theorem dMD_fixWidths_132 : decode cMD_fixWidths 132 = .ok (.getfield 59, 3) := by decide +kernel
theorem dMD_fixWidths_135 : decode cMD_fixWidths 135 = .ok (.iload 5, 2) := by decide +kernel
theorem dMD_fixWidths_137 : decode cMD_fixWidths 137 = .ok (.aload_n 0, 1) := by decide +kernel
theorem dMD_fixWidths_138 : decode cMD_fixWidths 138 = .ok (.getfield 65, 3) := by decide +kernel
theorem dMD_fixWidths_141 : decode cMD_fixWidths 141 = .ok (.iload 5, 2) := by decide +kernel
theorem dMD_fixWidths_143 : decode cMD_fixWidths 143 = .ok (.baload, 1) := by decide +kernel
theorem dMD_fixWidths_144 : decode cMD_fixWidths 144 = .ok (.ifCond .eq 13, 3) := by decide +kernel
theorem dMD_fixWidths_147 : decode cMD_fixWidths 147 = .ok (.aload_n 0, 1) := by decide +kernel
theorem dMD_fixWidths_148 : decode cMD_fixWidths 148 = .ok (.getfield 59, 3) := by decide +kernel
theorem dMD_fixWidths_151 : decode cMD_fixWidths 151 = .ok (.iload 5, 2) := by decide +kernel
theorem dMD_fixWidths_153 : decode cMD_fixWidths 153 = .ok (.iaload, 1) := by decide +kernel
theorem dMD_fixWidths_154 : decode cMD_fixWidths 154 = .ok (.goto 5, 3) := by decide +kernel
theorem dMD_fixWidths_157 : decode cMD_fixWidths 157 = .ok (.iload 6, 2) := by decide +kernel
theorem dMD_fixWidths_159 : decode cMD_fixWidths 159 = .ok (.iastore, 1) := by decide +kernel
theorem dMD_fixWidths_160 : decode cMD_fixWidths 160 = .ok (.aload_n 0, 1) := by decide +kernel
theorem dMD_fixWidths_161 : decode cMD_fixWidths 161 = .ok (.getfield 65, 3) := by decide +kernel
theorem dMD_fixWidths_164 : decode cMD_fixWidths 164 = .ok (.iload 5, 2) := by decide +kernel
theorem dMD_fixWidths_166 : decode cMD_fixWidths 166 = .ok (.iconst 1, 1) := by decide +kernel
theorem dMD_fixWidths_167 : decode cMD_fixWidths 167 = .ok (.bastore, 1) := by decide +kernel
theorem dMD_fixWidths_168 : decode cMD_fixWidths 168 = .ok (.iinc 4 1, 3) := by decide +kernel
theorem dMD_fixWidths_171 : decode cMD_fixWidths 171 = .ok (.goto (-100), 3) := by decide +kernel
theorem dMD_fixWidths_174 : decode cMD_fixWidths 174 = .ok (.iinc 2 1, 3) := by decide +kernel
theorem dMD_fixWidths_177 : decode cMD_fixWidths 177 = .ok (.goto (-142), 3) := by decide +kernel
theorem dMD_fixWidths_180 : decode cMD_fixWidths 180 = .ok (.iconst 0, 1) := by decide +kernel
theorem dMD_fixWidths_181 : decode cMD_fixWidths 181 = .ok (.istore_n 2, 1) := by decide +kernel
theorem dMD_fixWidths_182 : decode cMD_fixWidths 182 = .ok (.iconst 0, 1) := by decide +kernel
theorem dMD_fixWidths_183 : decode cMD_fixWidths 183 = .ok (.istore_n 3, 1) := by decide +kernel
theorem dMD_fixWidths_184 : decode cMD_fixWidths 184 = .ok (.iload_n 3, 1) := by decide +kernel
theorem dMD_fixWidths_185 : decode cMD_fixWidths 185 = .ok (.iload_n 1, 1) := by decide +kernel
theorem dMD_fixWidths_186 : decode cMD_fixWidths 186 = .ok (.if_icmp .ge 26, 3) := by decide +kernel
theorem dMD_fixWidths_189 : decode cMD_fixWidths 189 = .ok (.aload_n 0, 1) := by decide +kernel
end
section
theorem dMD_fixWidths_190 : decode cMD_fixWidths 190 = .ok (.getfield 65, 3) := by decide +kernel
theorem dMD_fixWidths_193 : decode cMD_fixWidths 193 = .ok (.iload_n 3, 1) := by decide +kernel
theorem dMD_fixWidths_194 : decode cMD_fixWidths 194 = .ok (.baload, 1) := by decide +kernel
theorem dMD_fixWidths_195 : decode cMD_fixWidths 195 = .ok (.ifCond .eq 7, 3) := by decide +kernel
theorem dMD_fixWidths_198 : decode cMD_fixWidths 198 = .ok (.iload_n 2, 1) := by decide +kernel
theorem dMD_fixWidths_199 : decode cMD_fixWidths 199 = .ok (.goto 6, 3) := by decide +kernel
theorem dMD_fixWidths_202 : decode cMD_fixWidths 202 = .ok (.iload_n 2, 1) := by decide +kernel
theorem dMD_fixWidths_203 : decode cMD_fixWidths 203 = .ok (.iconst 1, 1) := by decide +kernel
theorem dMD_fixWidths_204 : decode cMD_fixWidths 204 = .ok (.iadd, 1) := by decide +kernel
theorem dMD_fixWidths_205 : decode cMD_fixWidths 205 = .ok (.istore_n 2, 1) := by decide +kernel
theorem dMD_fixWidths_206 : decode cMD_fixWidths 206 = .ok (.iinc 3 1, 3) := by decide +kernel
theorem dMD_fixWidths_209 : decode cMD_fixWidths 209 = .ok (.goto (-25), 3) := by decide +kernel
theorem dMD_fixWidths_212 : decode cMD_fixWidths 212 = .ok (.iconst 0, 1) := by decide +kernel
theorem dMD_fixWidths_213 : decode cMD_fixWidths 213 = .ok (.aload_n 0, 1) := by decide +kernel
theorem dMD_fixWidths_214 : decode cMD_fixWidths 214 = .ok (.invokevirtual 140, 3) := by decide +kernel
theorem dMD_fixWidths_217 : decode cMD_fixWidths 217 = .ok (.aload_n 0, 1) := by decide +kernel
theorem dMD_fixWidths_218 : decode cMD_fixWidths 218 = .ok (.getfield 59, 3) := by decide +kernel
theorem dMD_fixWidths_221 : decode cMD_fixWidths 221 = .ok (.iconst 0, 1) := by decide +kernel
theorem dMD_fixWidths_222 : decode cMD_fixWidths 222 = .ok (.iload_n 1, 1) := by decide +kernel
theorem dMD_fixWidths_223 : decode cMD_fixWidths 223 = .ok (.invokestatic 128, 3) := by decide +kernel
theorem dMD_fixWidths_226 : decode cMD_fixWidths 226 = .ok (.isub, 1) := by decide +kernel
theorem dMD_fixWidths_227 : decode cMD_fixWidths 227 = .ok (.invokestatic 121, 3) := by decide +kernel
theorem dMD_fixWidths_230 : decode cMD_fixWidths 230 = .ok (.istore_n 3, 1) := by decide +kernel
theorem dMD_fixWidths_231 : decode cMD_fixWidths 231 = .ok (.iconst 0, 1) := by decide +kernel
theorem dMD_fixWidths_232 : decode cMD_fixWidths 232 = .ok (.istore 4, 2) := by decide +kernel
theorem dMD_fixWidths_234 : decode cMD_fixWidths 234 = .ok (.iconst 0, 1) := by decide +kernel
theorem dMD_fixWidths_235 : decode cMD_fixWidths 235 = .ok (.istore 5, 2) := by decide +kernel
theorem dMD_fixWidths_237 : decode cMD_fixWidths 237 = .ok (.iload 5, 2) := by decide +kernel
theorem dMD_fixWidths_239 : decode cMD_fixWidths 239 = .ok (.iload_n 1, 1) := by decide +kernel
theorem dMD_fixWidths_240 : decode cMD_fixWidths 240 = .ok (.if_icmp .ge 49, 3) := by decide +kernel
theorem dMD_fixWidths_243 : decode cMD_fixWidths 243 = .ok (.aload_n 0, 1) := by decide +kernel
theorem dMD_fixWidths_244 : decode cMD_fixWidths 244 = .ok (.getfield 65, 3) := by decide +kernel
theorem dMD_fixWidths_247 : decode cMD_fixWidths 247 = .ok (.iload 5, 2) := by decide +kernel
theorem dMD_fixWidths_249 : decode cMD_fixWidths 249 = .ok (.baload, 1) := by decide +kernel
theorem dMD_fixWidths_250 : decode cMD_fixWidths 250 = .ok (.ifCond .ne 33, 3) := by decide +kernel
theorem dMD_fixWidths_253 : decode cMD_fixWidths 253 = .ok (.aload_n 0, 1) := by decide +kernel
theorem dMD_fixWidths_254 : decode cMD_fixWidths 254 = .ok (.getfield 59, 3) := by decide +kernel
theorem dMD_fixWidths_257 : decode cMD_fixWidths 257 = .ok (.iload 5, 2) := by decide +kernel
theorem dMD_fixWidths_259 : decode cMD_fixWidths 259 = .ok (.iload_n 3, 1) := by decide +kernel
theorem dMD_fixWidths_260 : decode cMD_fixWidths 260 = .ok (.iload_n 2, 1) := by decide +kernel
theorem dMD_fixWidths_261 : decode cMD_fixWidths 261 = .ok (.idiv, 1) := by decide +kernel
theorem dMD_fixWidths_262 : decode cMD_fixWidths 262 = .ok (.iload 4, 2) := by decide +kernel
theorem dMD_fixWidths_264 : decode cMD_fixWidths 264 = .ok (.iload_n 3, 1) := by decide +kernel
theorem dMD_fixWidths_265 : decode cMD_fixWidths 265 = .ok (.iload_n 2, 1) := by decide +kernel
theorem dMD_fixWidths_266 : decode cMD_fixWidths 266 = .ok (.irem, 1) := by decide +kernel
theorem dMD_fixWidths_267 : decode cMD_fixWidths 267 = .ok (.if_icmp .ge 7, 3) := by decide +kernel
theorem dMD_fixWidths_270 : decode cMD_fixWidths 270 = .ok (.iconst 1, 1) := by decide +kernel
theorem dMD_fixWidths_271 : decode cMD_fixWidths 271 = .ok (.goto 4, 3) := by decide +kernel
theorem dMD_fixWidths_274 : decode cMD_fixWidths 274 = .ok (.iconst 0, 1) := by decide +kernel
theorem dMD_fixWidths_275 : decode cMD_fixWidths 275 = .ok (.iadd, 1) := by decide +kernel
theorem dMD_fixWidths_276 : decode cMD_fixWidths 276 = .ok (.iastore, 1) := by decide +kernel
theorem dMD_fixWidths_277 : decode cMD_fixWidths 277 = .ok (.iload 4, 2) := by decide +kernel
theorem dMD_fixWidths_279 : decode cMD_fixWidths 279 = .ok (.iconst 1, 1) := by decide +kernel
theorem dMD_fixWidths_280 : decode cMD_fixWidths 280 = .ok (.iadd, 1) := by decide +kernel
theorem dMD_fixWidths_281 : decode cMD_fixWidths 281 = .ok (.istore 4, 2) := by decide +kernel
theorem dMD_fixWidths_283 : decode cMD_fixWidths 283 = .ok (.iinc 5 1, 3) := by decide +kernel
theorem dMD_fixWidths_286 : decode cMD_fixWidths 286 = .ok (.goto (-49), 3) := by decide +kernel
theorem dMD_fixWidths_289 : decode cMD_fixWidths 289 = .ok (.return_, 1) := by decide +kernel
theorem dMD_greater_0 : decode cMD_greater 0 = .ok (.iload_n 0, 1) := by decide +kernel
theorem dMD_greater_1 : decode cMD_greater 1 = .ok (.iload_n 1, 1) := by decide +kernel
theorem dMD_greater_2 : decode cMD_greater 2 = .ok (.if_icmp .le 7, 3) := by decide +kernel
theorem dMD_greater_5 : decode cMD_greater 5 = .ok (.iload_n 0, 1) := by decide +kernel
theorem dMD_greater_6 : decode cMD_greater 6 = .ok (.goto 4, 3) := by decide +kernel
theorem dMD_greater_9 : decode cMD_greater 9 = .ok (.iload_n 1, 1) := by decide +kernel
theorem dMD_greater_10 : decode cMD_greater 10 = .ok (.ireturn, 1) := by decide +kernel
theorem dMD_group_0 : decode cMD_group 0 = .ok (.aload_n 0, 1) := by decide +kernel
theorem dMD_group_1 : decode cMD_group 1 = .ok (.getfield 7, 3) := by decide +kernel
theorem dMD_group_4 : decode cMD_group 4 = .ok (.bipush 8, 2) := by decide +kernel
theorem dMD_group_6 : decode cMD_group 6 = .ok (.if_icmp .ne 5, 3) := by decide +kernel
theorem dMD_group_9 : decode cMD_group 9 = .ok (.iconst (-1), 1) := by decide +kernel
theorem dMD_group_10 : decode cMD_group 10 = .ok (.ireturn, 1) := by decide +kernel
theorem dMD_group_11 : decode cMD_group 11 = .ok (.aload_n 0, 1) := by decide +kernel
theorem dMD_group_12 : decode cMD_group 12 = .ok (.getfield 13, 3) := by decide +kernel
theorem dMD_group_15 : decode cMD_group 15 = .ok (.aload_n 0, 1) := by decide +kernel
theorem dMD_group_16 : decode cMD_group 16 = .ok (.getfield 7, 3) := by decide +kernel
theorem dMD_group_19 : decode cMD_group 19 = .ok (.aload_n 0, 1) := by decide +kernel
theorem dMD_group_20 : decode cMD_group 20 = .ok (.aload_n 0, 1) := by decide +kernel
theorem dMD_group_21 : decode cMD_group 21 = .ok (.getfield 7, 3) := by decide +kernel
theorem dMD_group_24 : decode cMD_group 24 = .ok (.iconst 1, 1) := by decide +kernel
theorem dMD_group_25 : decode cMD_group 25 = .ok (.isub, 1) := by decide +kernel
theorem dMD_group_26 : decode cMD_group 26 = .ok (.invokevirtual 75, 3) := by decide +kernel
theorem dMD_group_29 : decode cMD_group 29 = .ok (.iastore, 1) := by decide +kernel
theorem dMD_group_30 : decode cMD_group 30 = .ok (.aload_n 0, 1) := by decide +kernel
theorem dMD_group_31 : decode cMD_group 31 = .ok (.getfield 17, 3) := by decide +kernel
theorem dMD_group_34 : decode cMD_group 34 = .ok (.aload_n 0, 1) := by decide +kernel
theorem dMD_group_35 : decode cMD_group 35 = .ok (.getfield 7, 3) := by decide +kernel
theorem dMD_group_38 : decode cMD_group 38 = .ok (.iconst 0, 1) := by decide +kernel
theorem dMD_group_39 : decode cMD_group 39 = .ok (.iastore, 1) := by decide +kernel
theorem dMD_group_40 : decode cMD_group 40 = .ok (.aload_n 0, 1) := by decide +kernel
theorem dMD_group_41 : decode cMD_group 41 = .ok (.aload_n 0, 1) := by decide +kernel
theorem dMD_group_42 : decode cMD_group 42 = .ok (.getfield 7, 3) := by decide +kernel
theorem dMD_group_45 : decode cMD_group 45 = .ok (.iconst 1, 1) := by decide +kernel
theorem dMD_group_46 : decode cMD_group 46 = .ok (.iadd, 1) := by decide +kernel
theorem dMD_group_47 : decode cMD_group 47 = .ok (.putfield 7, 3) := by decide +kernel
theorem dMD_group_50 : decode cMD_group 50 = .ok (.aload_n 0, 1) := by decide +kernel
theorem dMD_group_51 : decode cMD_group 51 = .ok (.getfield 7, 3) := by decide +kernel
theorem dMD_group_54 : decode cMD_group 54 = .ok (.ireturn, 1) := by decide +kernel
theorem dMD_high_0 : decode cMD_high 0 = .ok (.iload_n 1, 1) := by decide +kernel
theorem dMD_high_1 : decode cMD_high 1 = .ok (.ifCond .lt 11, 3) := by decide +kernel
theorem dMD_high_4 : decode cMD_high 4 = .ok (.iload_n 1, 1) := by decide +kernel
theorem dMD_high_5 : decode cMD_high 5 = .ok (.aload_n 0, 1) := by decide +kernel
theorem dMD_high_6 : decode cMD_high 6 = .ok (.invokevirtual 117, 3) := by decide +kernel
theorem dMD_high_9 : decode cMD_high 9 = .ok (.if_icmp .lt 5, 3) := by decide +kernel
theorem dMD_high_12 : decode cMD_high 12 = .ok (.iconst (-1), 1) := by decide +kernel
theorem dMD_high_13 : decode cMD_high 13 = .ok (.ireturn, 1) := by decide +kernel
theorem dMD_high_14 : decode cMD_high 14 = .ok (.aload_n 0, 1) := by decide +kernel
theorem dMD_high_15 : decode cMD_high 15 = .ok (.invokevirtual 152, 3) := by decide +kernel
theorem dMD_high_18 : decode cMD_high 18 = .ok (.aload_n 0, 1) := by decide +kernel
theorem dMD_high_19 : decode cMD_high 19 = .ok (.getfield 62, 3) := by decide +kernel
theorem dMD_high_22 : decode cMD_high 22 = .ok (.iload_n 1, 1) := by decide +kernel
theorem dMD_high_23 : decode cMD_high 23 = .ok (.iaload, 1) := by decide +kernel
theorem dMD_high_24 : decode cMD_high 24 = .ok (.ireturn, 1) := by decide +kernel
theorem dMD_howMany_0 : decode cMD_howMany 0 = .ok (.iconst 0, 1) := by decide +kernel
theorem dMD_howMany_1 : decode cMD_howMany 1 = .ok (.istore_n 3, 1) := by decide +kernel
theorem dMD_howMany_2 : decode cMD_howMany 2 = .ok (.iconst 0, 1) := by decide +kernel
theorem dMD_howMany_3 : decode cMD_howMany 3 = .ok (.istore 4, 2) := by decide +kernel
theorem dMD_howMany_5 : decode cMD_howMany 5 = .ok (.iload 4, 2) := by decide +kernel
theorem dMD_howMany_7 : decode cMD_howMany 7 = .ok (.aload_n 0, 1) := by decide +kernel
theorem dMD_howMany_8 : decode cMD_howMany 8 = .ok (.getfield 72, 3) := by decide +kernel
theorem dMD_howMany_11 : decode cMD_howMany 11 = .ok (.if_icmp .ge 28, 3) := by decide +kernel
theorem dMD_howMany_14 : decode cMD_howMany 14 = .ok (.aload_n 0, 1) := by decide +kernel
theorem dMD_howMany_15 : decode cMD_howMany 15 = .ok (.iload 4, 2) := by decide +kernel
theorem dMD_howMany_17 : decode cMD_howMany 17 = .ok (.iload_n 1, 1) := by decide +kernel
theorem dMD_howMany_18 : decode cMD_howMany 18 = .ok (.iload_n 2, 1) := by decide +kernel
theorem dMD_howMany_19 : decode cMD_howMany 19 = .ok (.invokevirtual 105, 3) := by decide +kernel
theorem dMD_howMany_22 : decode cMD_howMany 22 = .ok (.ifCond .eq 9, 3) := by decide +kernel
theorem dMD_howMany_25 : decode cMD_howMany 25 = .ok (.iload_n 3, 1) := by decide +kernel
theorem dMD_howMany_26 : decode cMD_howMany 26 = .ok (.iconst 1, 1) := by decide +kernel
theorem dMD_howMany_27 : decode cMD_howMany 27 = .ok (.iadd, 1) := by decide +kernel
theorem dMD_howMany_28 : decode cMD_howMany 28 = .ok (.goto 4, 3) := by decide +kernel
theorem dMD_howMany_31 : decode cMD_howMany 31 = .ok (.iload_n 3, 1) := by decide +kernel
theorem dMD_howMany_32 : decode cMD_howMany 32 = .ok (.istore_n 3, 1) := by decide +kernel
theorem dMD_howMany_33 : decode cMD_howMany 33 = .ok (.iinc 4 1, 3) := by decide +kernel
theorem dMD_howMany_36 : decode cMD_howMany 36 = .ok (.goto (-31), 3) := by decide +kernel
theorem dMD_howMany_39 : decode cMD_howMany 39 = .ok (.iload_n 3, 1) := by decide +kernel
theorem dMD_howMany_40 : decode cMD_howMany 40 = .ok (.ireturn, 1) := by decide +kernel
theorem dMD_init_0 : decode cMD_init 0 = .ok (.aload_n 0, 1) := by decide +kernel
theorem dMD_init_1 : decode cMD_init 1 = .ok (.invokespecial 1, 3) := by decide +kernel
theorem dMD_init_4 : decode cMD_init 4 = .ok (.aload_n 0, 1) := by decide +kernel
theorem dMD_init_5 : decode cMD_init 5 = .ok (.iconst 1, 1) := by decide +kernel
theorem dMD_init_6 : decode cMD_init 6 = .ok (.putfield 7, 3) := by decide +kernel
theorem dMD_init_9 : decode cMD_init 9 = .ok (.aload_n 0, 1) := by decide +kernel
theorem dMD_init_10 : decode cMD_init 10 = .ok (.bipush 8, 2) := by decide +kernel
theorem dMD_init_12 : decode cMD_init 12 = .ok (.newarray .int, 2) := by decide +kernel
theorem dMD_init_14 : decode cMD_init 14 = .ok (.putfield 13, 3) := by decide +kernel
theorem dMD_init_17 : decode cMD_init 17 = .ok (.aload_n 0, 1) := by decide +kernel
theorem dMD_init_18 : decode cMD_init 18 = .ok (.bipush 8, 2) := by decide +kernel
theorem dMD_init_20 : decode cMD_init 20 = .ok (.newarray .int, 2) := by decide +kernel
theorem dMD_init_22 : decode cMD_init 22 = .ok (.putfield 17, 3) := by decide +kernel
theorem dMD_init_25 : decode cMD_init 25 = .ok (.aload_n 0, 1) := by decide +kernel
theorem dMD_init_26 : decode cMD_init 26 = .ok (.bipush 40, 2) := by decide +kernel
theorem dMD_init_28 : decode cMD_init 28 = .ok (.newarray .int, 2) := by decide +kernel
theorem dMD_init_30 : decode cMD_init 30 = .ok (.putfield 20, 3) := by decide +kernel
theorem dMD_init_33 : decode cMD_init 33 = .ok (.aload_n 0, 1) := by decide +kernel
theorem dMD_init_34 : decode cMD_init 34 = .ok (.bipush 40, 2) := by decide +kernel
theorem dMD_init_36 : decode cMD_init 36 = .ok (.newarray .int, 2) := by decide +kernel
theorem dMD_init_38 : decode cMD_init 38 = .ok (.putfield 23, 3) := by decide +kernel
theorem dMD_init_41 : decode cMD_init 41 = .ok (.aload_n 0, 1) := by decide +kernel
theorem dMD_init_42 : decode cMD_init 42 = .ok (.bipush 40, 2) := by decide +kernel
theorem dMD_init_44 : decode cMD_init 44 = .ok (.newarray .int, 2) := by decide +kernel
theorem dMD_init_46 : decode cMD_init 46 = .ok (.putfield 26, 3) := by decide +kernel
theorem dMD_init_49 : decode cMD_init 49 = .ok (.aload_n 0, 1) := by decide +kernel
theorem dMD_init_50 : decode cMD_init 50 = .ok (.bipush 40, 2) := by decide +kernel
theorem dMD_init_52 : decode cMD_init 52 = .ok (.newarray .int, 2) := by decide +kernel
theorem dMD_init_54 : decode cMD_init 54 = .ok (.putfield 29, 3) := by decide +kernel
theorem dMD_init_57 : decode cMD_init 57 = .ok (.aload_n 0, 1) := by decide +kernel
theorem dMD_init_58 : decode cMD_init 58 = .ok (.bipush 40, 2) := by decide +kernel
theorem dMD_init_60 : decode cMD_init 60 = .ok (.newarray .int, 2) := by decide +kernel
theorem dMD_init_62 : decode cMD_init 62 = .ok (.putfield 32, 3) := by decide +kernel
theorem dMD_init_65 : decode cMD_init 65 = .ok (.aload_n 0, 1) := by decide +kernel
theorem dMD_init_66 : decode cMD_init 66 = .ok (.bipush 40, 2) := by decide +kernel
theorem dMD_init_68 : decode cMD_init 68 = .ok (.newarray .int, 2) := by decide +kernel
theorem dMD_init_70 : decode cMD_init 70 = .ok (.putfield 35, 3) := by decide +kernel
theorem dMD_init_73 : decode cMD_init 73 = .ok (.aload_n 0, 1) := by decide +kernel
theorem dMD_init_74 : decode cMD_init 74 = .ok (.bipush 40, 2) := by decide +kernel
theorem dMD_init_76 : decode cMD_init 76 = .ok (.newarray .int, 2) := by decide +kernel
theorem dMD_init_78 : decode cMD_init 78 = .ok (.putfield 38, 3) := by decide +kernel
theorem dMD_init_81 : decode cMD_init 81 = .ok (.aload_n 0, 1) := by decide +kernel
theorem dMD_init_82 : decode cMD_init 82 = .ok (.bipush 40, 2) := by decide +kernel
theorem dMD_init_84 : decode cMD_init 84 = .ok (.newarray .int, 2) := by decide +kernel
theorem dMD_init_86 : decode cMD_init 86 = .ok (.putfield 41, 3) := by decide +kernel
theorem dMD_init_89 : decode cMD_init 89 = .ok (.aload_n 0, 1) := by decide +kernel
theorem dMD_init_90 : decode cMD_init 90 = .ok (.bipush 40, 2) := by decide +kernel
theorem dMD_init_92 : decode cMD_init 92 = .ok (.newarray .int, 2) := by decide +kernel
theorem dMD_init_94 : decode cMD_init 94 = .ok (.putfield 44, 3) := by decide +kernel
theorem dMD_init_97 : decode cMD_init 97 = .ok (.aload_n 0, 1) := by decide +kernel
theorem dMD_init_98 : decode cMD_init 98 = .ok (.bipush 40, 2) := by decide +kernel
theorem dMD_init_100 : decode cMD_init 100 = .ok (.newarray .int, 2) := by decide +kernel
theorem dMD_init_102 : decode cMD_init 102 = .ok (.putfield 47, 3) := by decide +kernel
theorem dMD_init_105 : decode cMD_init 105 = .ok (.aload_n 0, 1) := by decide +kernel
theorem dMD_init_106 : decode cMD_init 106 = .ok (.iconst (-1), 1) := by decide +kernel
theorem dMD_init_107 : decode cMD_init 107 = .ok (.putfield 50, 3) := by decide +kernel
theorem dMD_init_110 : decode cMD_init 110 = .ok (.aload_n 0, 1) := by decide +kernel
theorem dMD_init_111 : decode cMD_init 111 = .ok (.bipush 12, 2) := by decide +kernel
theorem dMD_init_113 : decode cMD_init 113 = .ok (.newarray .int, 2) := by decide +kernel
theorem dMD_init_115 : decode cMD_init 115 = .ok (.putfield 53, 3) := by decide +kernel
theorem dMD_init_118 : decode cMD_init 118 = .ok (.aload_n 0, 1) := by decide +kernel
theorem dMD_init_119 : decode cMD_init 119 = .ok (.bipush 12, 2) := by decide +kernel
theorem dMD_init_121 : decode cMD_init 121 = .ok (.newarray .int, 2) := by decide +kernel
theorem dMD_init_123 : decode cMD_init 123 = .ok (.putfield 56, 3) := by decide +kernel
theorem dMD_init_126 : decode cMD_init 126 = .ok (.aload_n 0, 1) := by decide +kernel
theorem dMD_init_127 : decode cMD_init 127 = .ok (.bipush 12, 2) := by decide +kernel
theorem dMD_init_129 : decode cMD_init 129 = .ok (.newarray .int, 2) := by decide +kernel
theorem dMD_init_131 : decode cMD_init 131 = .ok (.putfield 59, 3) := by decide +kernel
theorem dMD_init_134 : decode cMD_init 134 = .ok (.aload_n 0, 1) := by decide +kernel
theorem dMD_init_135 : decode cMD_init 135 = .ok (.bipush 12, 2) := by decide +kernel
theorem dMD_init_137 : decode cMD_init 137 = .ok (.newarray .int, 2) := by decide +kernel
theorem dMD_init_139 : decode cMD_init 139 = .ok (.putfield 62, 3) := by decide +kernel
theorem dMD_init_142 : decode cMD_init 142 = .ok (.aload_n 0, 1) := by decide +kernel
theorem dMD_init_143 : decode cMD_init 143 = .ok (.bipush 12, 2) := by decide +kernel
theorem dMD_init_145 : decode cMD_init 145 = .ok (.newarray .boolean, 2) := by decide +kernel
theorem dMD_init_147 : decode cMD_init 147 = .ok (.putfield 65, 3) := by decide +kernel
theorem dMD_init_150 : decode cMD_init 150 = .ok (.aload_n 0, 1) := by decide +kernel
theorem dMD_init_151 : decode cMD_init 151 = .ok (.bipush 12, 2) := by decide +kernel
theorem dMD_init_153 : decode cMD_init 153 = .ok (.newarray .int, 2) := by decide +kernel
theorem dMD_init_155 : decode cMD_init 155 = .ok (.putfield 69, 3) := by decide +kernel
theorem dMD_init_158 : decode cMD_init 158 = .ok (.return_, 1) := by decide +kernel
theorem dMD_isCell_0 : decode cMD_isCell 0 = .ok (.iload_n 1, 1) := by decide +kernel
theorem dMD_isCell_1 : decode cMD_isCell 1 = .ok (.ifCond .lt 15, 3) := by decide +kernel
theorem dMD_isCell_4 : decode cMD_isCell 4 = .ok (.iload_n 1, 1) := by decide +kernel
theorem dMD_isCell_5 : decode cMD_isCell 5 = .ok (.aload_n 0, 1) := by decide +kernel
theorem dMD_isCell_6 : decode cMD_isCell 6 = .ok (.getfield 72, 3) := by decide +kernel
theorem dMD_isCell_9 : decode cMD_isCell 9 = .ok (.if_icmp .ge 7, 3) := by decide +kernel
theorem dMD_isCell_12 : decode cMD_isCell 12 = .ok (.iconst 1, 1) := by decide +kernel
theorem dMD_isCell_13 : decode cMD_isCell 13 = .ok (.goto 4, 3) := by decide +kernel
theorem dMD_isCell_16 : decode cMD_isCell 16 = .ok (.iconst 0, 1) := by decide +kernel
theorem dMD_isCell_17 : decode cMD_isCell 17 = .ok (.ireturn, 1) := by decide +kernel
theorem dMD_isTaken_0 : decode cMD_isTaken 0 = .ok (.iconst 0, 1) := by decide +kernel
theorem dMD_isTaken_1 : decode cMD_isTaken 1 = .ok (.istore_n 2, 1) := by decide +kernel
theorem dMD_isTaken_2 : decode cMD_isTaken 2 = .ok (.iconst 0, 1) := by decide +kernel
theorem dMD_isTaken_3 : decode cMD_isTaken 3 = .ok (.istore_n 3, 1) := by decide +kernel
theorem dMD_isTaken_4 : decode cMD_isTaken 4 = .ok (.iload_n 3, 1) := by decide +kernel
theorem dMD_isTaken_5 : decode cMD_isTaken 5 = .ok (.aload_n 0, 1) := by decide +kernel
theorem dMD_isTaken_6 : decode cMD_isTaken 6 = .ok (.getfield 72, 3) := by decide +kernel
theorem dMD_isTaken_9 : decode cMD_isTaken 9 = .ok (.if_icmp .ge 100, 3) := by decide +kernel
theorem dMD_isTaken_12 : decode cMD_isTaken 12 = .ok (.aload_n 0, 1) := by decide +kernel
theorem dMD_isTaken_13 : decode cMD_isTaken 13 = .ok (.getfield 32, 3) := by decide +kernel
theorem dMD_isTaken_16 : decode cMD_isTaken 16 = .ok (.iload_n 3, 1) := by decide +kernel
theorem dMD_isTaken_17 : decode cMD_isTaken 17 = .ok (.iaload, 1) := by decide +kernel
theorem dMD_isTaken_18 : decode cMD_isTaken 18 = .ok (.aload_n 0, 1) := by decide +kernel
theorem dMD_isTaken_19 : decode cMD_isTaken 19 = .ok (.getfield 50, 3) := by decide +kernel
theorem dMD_isTaken_22 : decode cMD_isTaken 22 = .ok (.if_icmp .ne 36, 3) := by decide +kernel
theorem dMD_isTaken_25 : decode cMD_isTaken 25 = .ok (.aload_n 0, 1) := by decide +kernel
theorem dMD_isTaken_26 : decode cMD_isTaken 26 = .ok (.getfield 29, 3) := by decide +kernel
theorem dMD_isTaken_29 : decode cMD_isTaken 29 = .ok (.iload_n 3, 1) := by decide +kernel
theorem dMD_isTaken_30 : decode cMD_isTaken 30 = .ok (.iaload, 1) := by decide +kernel
theorem dMD_isTaken_31 : decode cMD_isTaken 31 = .ok (.ifCond .eq 23, 3) := by decide +kernel
theorem dMD_isTaken_34 : decode cMD_isTaken 34 = .ok (.aload_n 0, 1) := by decide +kernel
theorem dMD_isTaken_35 : decode cMD_isTaken 35 = .ok (.getfield 79, 3) := by decide +kernel
theorem dMD_isTaken_38 : decode cMD_isTaken 38 = .ok (.aload_n 0, 1) := by decide +kernel
theorem dMD_isTaken_39 : decode cMD_isTaken 39 = .ok (.getfield 23, 3) := by decide +kernel
theorem dMD_isTaken_42 : decode cMD_isTaken 42 = .ok (.iload_n 3, 1) := by decide +kernel
theorem dMD_isTaken_43 : decode cMD_isTaken 43 = .ok (.iaload, 1) := by decide +kernel
theorem dMD_isTaken_44 : decode cMD_isTaken 44 = .ok (.aload_n 0, 1) := by decide +kernel
theorem dMD_isTaken_45 : decode cMD_isTaken 45 = .ok (.getfield 29, 3) := by decide +kernel
theorem dMD_isTaken_48 : decode cMD_isTaken 48 = .ok (.iload_n 3, 1) := by decide +kernel
theorem dMD_isTaken_49 : decode cMD_isTaken 49 = .ok (.iaload, 1) := by decide +kernel
theorem dMD_isTaken_50 : decode cMD_isTaken 50 = .ok (.iadd, 1) := by decide +kernel
theorem dMD_isTaken_51 : decode cMD_isTaken 51 = .ok (.if_icmp .ge 7, 3) := by decide +kernel
theorem dMD_isTaken_54 : decode cMD_isTaken 54 = .ok (.iconst 1, 1) := by decide +kernel
theorem dMD_isTaken_55 : decode cMD_isTaken 55 = .ok (.goto 4, 3) := by decide +kernel
theorem dMD_isTaken_58 : decode cMD_isTaken 58 = .ok (.iconst 0, 1) := by decide +kernel
theorem dMD_isTaken_59 : decode cMD_isTaken 59 = .ok (.istore 4, 2) := by decide +kernel
theorem dMD_isTaken_61 : decode cMD_isTaken 61 = .ok (.iload_n 2, 1) := by decide +kernel
theorem dMD_isTaken_62 : decode cMD_isTaken 62 = .ok (.ifCond .ne 35, 3) := by decide +kernel
theorem dMD_isTaken_65 : decode cMD_isTaken 65 = .ok (.iload 4, 2) := by decide +kernel
theorem dMD_isTaken_67 : decode cMD_isTaken 67 = .ok (.ifCond .eq 34, 3) := by decide +kernel
theorem dMD_isTaken_70 : decode cMD_isTaken 70 = .ok (.iload_n 1, 1) := by decide +kernel
theorem dMD_isTaken_71 : decode cMD_isTaken 71 = .ok (.aload_n 0, 1) := by decide +kernel
theorem dMD_isTaken_72 : decode cMD_isTaken 72 = .ok (.getfield 20, 3) := by decide +kernel
theorem dMD_isTaken_75 : decode cMD_isTaken 75 = .ok (.iload_n 3, 1) := by decide +kernel
theorem dMD_isTaken_76 : decode cMD_isTaken 76 = .ok (.iaload, 1) := by decide +kernel
theorem dMD_isTaken_77 : decode cMD_isTaken 77 = .ok (.if_icmp .lt 24, 3) := by decide +kernel
theorem dMD_isTaken_80 : decode cMD_isTaken 80 = .ok (.iload_n 1, 1) := by decide +kernel
theorem dMD_isTaken_81 : decode cMD_isTaken 81 = .ok (.aload_n 0, 1) := by decide +kernel
theorem dMD_isTaken_82 : decode cMD_isTaken 82 = .ok (.getfield 20, 3) := by decide +kernel
theorem dMD_isTaken_85 : decode cMD_isTaken 85 = .ok (.iload_n 3, 1) := by decide +kernel
theorem dMD_isTaken_86 : decode cMD_isTaken 86 = .ok (.iaload, 1) := by decide +kernel
theorem dMD_isTaken_87 : decode cMD_isTaken 87 = .ok (.aload_n 0, 1) := by decide +kernel
theorem dMD_isTaken_88 : decode cMD_isTaken 88 = .ok (.getfield 26, 3) := by decide +kernel
theorem dMD_isTaken_91 : decode cMD_isTaken 91 = .ok (.iload_n 3, 1) := by decide +kernel
theorem dMD_isTaken_92 : decode cMD_isTaken 92 = .ok (.iaload, 1) := by decide +kernel
theorem dMD_isTaken_93 : decode cMD_isTaken 93 = .ok (.iadd, 1) := by decide +kernel
theorem dMD_isTaken_94 : decode cMD_isTaken 94 = .ok (.if_icmp .ge 7, 3) := by decide +kernel
theorem dMD_isTaken_97 : decode cMD_isTaken 97 = .ok (.iconst 1, 1) := by decide +kernel
theorem dMD_isTaken_98 : decode cMD_isTaken 98 = .ok (.goto 4, 3) := by decide +kernel
theorem dMD_isTaken_101 : decode cMD_isTaken 101 = .ok (.iconst 0, 1) := by decide +kernel
theorem dMD_isTaken_102 : decode cMD_isTaken 102 = .ok (.istore_n 2, 1) := by decide +kernel
theorem dMD_isTaken_103 : decode cMD_isTaken 103 = .ok (.iinc 3 1, 3) := by decide +kernel
theorem dMD_isTaken_106 : decode cMD_isTaken 106 = .ok (.goto (-102), 3) := by decide +kernel
theorem dMD_isTaken_109 : decode cMD_isTaken 109 = .ok (.iload_n 2, 1) := by decide +kernel
theorem dMD_isTaken_110 : decode cMD_isTaken 110 = .ok (.ireturn, 1) := by decide +kernel
theorem dMD_layout_0 : decode cMD_layout 0 = .ok (.iload_n 1, 1) := by decide +kernel
theorem dMD_layout_1 : decode cMD_layout 1 = .ok (.ifCond .lt 20, 3) := by decide +kernel
theorem dMD_layout_4 : decode cMD_layout 4 = .ok (.iload_n 1, 1) := by decide +kernel
theorem dMD_layout_5 : decode cMD_layout 5 = .ok (.sipush 10000, 3) := by decide +kernel
theorem dMD_layout_8 : decode cMD_layout 8 = .ok (.if_icmp .gt 13, 3) := by decide +kernel
theorem dMD_layout_11 : decode cMD_layout 11 = .ok (.iload_n 2, 1) := by decide +kernel
theorem dMD_layout_12 : decode cMD_layout 12 = .ok (.ifCond .lt 9, 3) := by decide +kernel
theorem dMD_layout_15 : decode cMD_layout 15 = .ok (.iload_n 2, 1) := by decide +kernel
theorem dMD_layout_16 : decode cMD_layout 16 = .ok (.bipush 20, 2) := by decide +kernel
theorem dMD_layout_18 : decode cMD_layout 18 = .ok (.if_icmp .le 5, 3) := by decide +kernel
theorem dMD_layout_21 : decode cMD_layout 21 = .ok (.iconst 0, 1) := by decide +kernel
theorem dMD_layout_22 : decode cMD_layout 22 = .ok (.ireturn, 1) := by decide +kernel
theorem dMD_layout_23 : decode cMD_layout 23 = .ok (.aload_n 0, 1) := by decide +kernel
theorem dMD_layout_24 : decode cMD_layout 24 = .ok (.iload_n 1, 1) := by decide +kernel
theorem dMD_layout_25 : decode cMD_layout 25 = .ok (.putfield 92, 3) := by decide +kernel
theorem dMD_layout_28 : decode cMD_layout 28 = .ok (.aload_n 0, 1) := by decide +kernel
theorem dMD_layout_29 : decode cMD_layout 29 = .ok (.iload_n 2, 1) := by decide +kernel
theorem dMD_layout_30 : decode cMD_layout 30 = .ok (.putfield 95, 3) := by decide +kernel
theorem dMD_layout_33 : decode cMD_layout 33 = .ok (.aload_n 0, 1) := by decide +kernel
theorem dMD_layout_34 : decode cMD_layout 34 = .ok (.iload_n 3, 1) := by decide +kernel
theorem dMD_layout_35 : decode cMD_layout 35 = .ok (.putfield 98, 3) := by decide +kernel
theorem dMD_layout_38 : decode cMD_layout 38 = .ok (.iconst 1, 1) := by decide +kernel
theorem dMD_layout_39 : decode cMD_layout 39 = .ok (.ireturn, 1) := by decide +kernel
theorem dMD_measure_0 : decode cMD_measure 0 = .ok (.iconst 0, 1) := by decide +kernel
theorem dMD_measure_1 : decode cMD_measure 1 = .ok (.istore_n 1, 1) := by decide +kernel
theorem dMD_measure_2 : decode cMD_measure 2 = .ok (.iload_n 1, 1) := by decide +kernel
theorem dMD_measure_3 : decode cMD_measure 3 = .ok (.bipush 12, 2) := by decide +kernel
theorem dMD_measure_5 : decode cMD_measure 5 = .ok (.if_icmp .ge 23, 3) := by decide +kernel
theorem dMD_measure_8 : decode cMD_measure 8 = .ok (.aload_n 0, 1) := by decide +kernel
theorem dMD_measure_9 : decode cMD_measure 9 = .ok (.getfield 53, 3) := by decide +kernel
theorem dMD_measure_12 : decode cMD_measure 12 = .ok (.iload_n 1, 1) := by decide +kernel
theorem dMD_measure_13 : decode cMD_measure 13 = .ok (.iconst 0, 1) := by decide +kernel
theorem dMD_measure_14 : decode cMD_measure 14 = .ok (.iastore, 1) := by decide +kernel
theorem dMD_measure_15 : decode cMD_measure 15 = .ok (.aload_n 0, 1) := by decide +kernel
theorem dMD_measure_16 : decode cMD_measure 16 = .ok (.getfield 56, 3) := by decide +kernel
theorem dMD_measure_19 : decode cMD_measure 19 = .ok (.iload_n 1, 1) := by decide +kernel
theorem dMD_measure_20 : decode cMD_measure 20 = .ok (.iconst 0, 1) := by decide +kernel
theorem dMD_measure_21 : decode cMD_measure 21 = .ok (.iastore, 1) := by decide +kernel
theorem dMD_measure_22 : decode cMD_measure 22 = .ok (.iinc 1 1, 3) := by decide +kernel
theorem dMD_measure_25 : decode cMD_measure 25 = .ok (.goto (-23), 3) := by decide +kernel
theorem dMD_measure_28 : decode cMD_measure 28 = .ok (.iconst 1, 1) := by decide +kernel
theorem dMD_measure_29 : decode cMD_measure 29 = .ok (.istore_n 1, 1) := by decide +kernel
theorem dMD_measure_30 : decode cMD_measure 30 = .ok (.iload_n 1, 1) := by decide +kernel
theorem dMD_measure_31 : decode cMD_measure 31 = .ok (.bipush 7, 2) := by decide +kernel
theorem dMD_measure_33 : decode cMD_measure 33 = .ok (.if_icmp .ge 40, 3) := by decide +kernel
theorem dMD_measure_36 : decode cMD_measure 36 = .ok (.iconst 0, 1) := by decide +kernel
theorem dMD_measure_37 : decode cMD_measure 37 = .ok (.istore_n 2, 1) := by decide +kernel
theorem dMD_measure_38 : decode cMD_measure 38 = .ok (.iload_n 2, 1) := by decide +kernel
theorem dMD_measure_39 : decode cMD_measure 39 = .ok (.aload_n 0, 1) := by decide +kernel
theorem dMD_measure_40 : decode cMD_measure 40 = .ok (.getfield 72, 3) := by decide +kernel
theorem dMD_measure_43 : decode cMD_measure 43 = .ok (.if_icmp .ge 24, 3) := by decide +kernel
theorem dMD_measure_46 : decode cMD_measure 46 = .ok (.aload_n 0, 1) := by decide +kernel
theorem dMD_measure_47 : decode cMD_measure 47 = .ok (.getfield 26, 3) := by decide +kernel
theorem dMD_measure_50 : decode cMD_measure 50 = .ok (.iload_n 2, 1) := by decide +kernel
theorem dMD_measure_51 : decode cMD_measure 51 = .ok (.iaload, 1) := by decide +kernel
theorem dMD_measure_52 : decode cMD_measure 52 = .ok (.iload_n 1, 1) := by decide +kernel
theorem dMD_measure_53 : decode cMD_measure 53 = .ok (.if_icmp .ne 8, 3) := by decide +kernel
theorem dMD_measure_56 : decode cMD_measure 56 = .ok (.aload_n 0, 1) := by decide +kernel
theorem dMD_measure_57 : decode cMD_measure 57 = .ok (.iload_n 2, 1) := by decide +kernel
theorem dMD_measure_58 : decode cMD_measure 58 = .ok (.invokevirtual 136, 3) := by decide +kernel
theorem dMD_measure_61 : decode cMD_measure 61 = .ok (.iinc 2 1, 3) := by decide +kernel
theorem dMD_measure_64 : decode cMD_measure 64 = .ok (.goto (-26), 3) := by decide +kernel
theorem dMD_measure_67 : decode cMD_measure 67 = .ok (.iinc 1 1, 3) := by decide +kernel
theorem dMD_measure_70 : decode cMD_measure 70 = .ok (.goto (-40), 3) := by decide +kernel
theorem dMD_measure_73 : decode cMD_measure 73 = .ok (.return_, 1) := by decide +kernel
theorem dMD_measureCell_0 : decode cMD_measureCell 0 = .ok (.aload_n 0, 1) := by decide +kernel
theorem dMD_measureCell_1 : decode cMD_measureCell 1 = .ok (.getfield 20, 3) := by decide +kernel
theorem dMD_measureCell_4 : decode cMD_measureCell 4 = .ok (.iload_n 1, 1) := by decide +kernel
theorem dMD_measureCell_5 : decode cMD_measureCell 5 = .ok (.iaload, 1) := by decide +kernel
theorem dMD_measureCell_6 : decode cMD_measureCell 6 = .ok (.istore_n 2, 1) := by decide +kernel
theorem dMD_measureCell_7 : decode cMD_measureCell 7 = .ok (.iload_n 2, 1) := by decide +kernel
theorem dMD_measureCell_8 : decode cMD_measureCell 8 = .ok (.aload_n 0, 1) := by decide +kernel
theorem dMD_measureCell_9 : decode cMD_measureCell 9 = .ok (.getfield 26, 3) := by decide +kernel
theorem dMD_measureCell_12 : decode cMD_measureCell 12 = .ok (.iload_n 1, 1) := by decide +kernel
theorem dMD_measureCell_13 : decode cMD_measureCell 13 = .ok (.iaload, 1) := by decide +kernel
theorem dMD_measureCell_14 : decode cMD_measureCell 14 = .ok (.iadd, 1) := by decide +kernel
theorem dMD_measureCell_15 : decode cMD_measureCell 15 = .ok (.istore_n 3, 1) := by decide +kernel
theorem dMD_measureCell_16 : decode cMD_measureCell 16 = .ok (.aload_n 0, 1) := by decide +kernel
theorem dMD_measureCell_17 : decode cMD_measureCell 17 = .ok (.getfield 26, 3) := by decide +kernel
theorem dMD_measureCell_20 : decode cMD_measureCell 20 = .ok (.iload_n 1, 1) := by decide +kernel
theorem dMD_measureCell_21 : decode cMD_measureCell 21 = .ok (.iaload, 1) := by decide +kernel
theorem dMD_measureCell_22 : decode cMD_measureCell 22 = .ok (.iconst 1, 1) := by decide +kernel
theorem dMD_measureCell_23 : decode cMD_measureCell 23 = .ok (.if_icmp .ne 46, 3) := by decide +kernel
theorem dMD_measureCell_26 : decode cMD_measureCell 26 = .ok (.aload_n 0, 1) := by decide +kernel
theorem dMD_measureCell_27 : decode cMD_measureCell 27 = .ok (.getfield 53, 3) := by decide +kernel
theorem dMD_measureCell_30 : decode cMD_measureCell 30 = .ok (.iload_n 2, 1) := by decide +kernel
theorem dMD_measureCell_31 : decode cMD_measureCell 31 = .ok (.aload_n 0, 1) := by decide +kernel
theorem dMD_measureCell_32 : decode cMD_measureCell 32 = .ok (.getfield 53, 3) := by decide +kernel
theorem dMD_measureCell_35 : decode cMD_measureCell 35 = .ok (.iload_n 2, 1) := by decide +kernel
theorem dMD_measureCell_36 : decode cMD_measureCell 36 = .ok (.iaload, 1) := by decide +kernel
theorem dMD_measureCell_37 : decode cMD_measureCell 37 = .ok (.aload_n 0, 1) := by decide +kernel
theorem dMD_measureCell_38 : decode cMD_measureCell 38 = .ok (.getfield 35, 3) := by decide +kernel
theorem dMD_measureCell_41 : decode cMD_measureCell 41 = .ok (.iload_n 1, 1) := by decide +kernel
theorem dMD_measureCell_42 : decode cMD_measureCell 42 = .ok (.iaload, 1) := by decide +kernel
theorem dMD_measureCell_43 : decode cMD_measureCell 43 = .ok (.invokestatic 121, 3) := by decide +kernel
theorem dMD_measureCell_46 : decode cMD_measureCell 46 = .ok (.iastore, 1) := by decide +kernel
theorem dMD_measureCell_47 : decode cMD_measureCell 47 = .ok (.aload_n 0, 1) := by decide +kernel
theorem dMD_measureCell_48 : decode cMD_measureCell 48 = .ok (.getfield 56, 3) := by decide +kernel
theorem dMD_measureCell_51 : decode cMD_measureCell 51 = .ok (.iload_n 2, 1) := by decide +kernel
theorem dMD_measureCell_52 : decode cMD_measureCell 52 = .ok (.aload_n 0, 1) := by decide +kernel
theorem dMD_measureCell_53 : decode cMD_measureCell 53 = .ok (.getfield 56, 3) := by decide +kernel
theorem dMD_measureCell_56 : decode cMD_measureCell 56 = .ok (.iload_n 2, 1) := by decide +kernel
theorem dMD_measureCell_57 : decode cMD_measureCell 57 = .ok (.iaload, 1) := by decide +kernel
theorem dMD_measureCell_58 : decode cMD_measureCell 58 = .ok (.aload_n 0, 1) := by decide +kernel
theorem dMD_measureCell_59 : decode cMD_measureCell 59 = .ok (.getfield 38, 3) := by decide +kernel
theorem dMD_measureCell_62 : decode cMD_measureCell 62 = .ok (.iload_n 1, 1) := by decide +kernel
theorem dMD_measureCell_63 : decode cMD_measureCell 63 = .ok (.iaload, 1) := by decide +kernel
theorem dMD_measureCell_64 : decode cMD_measureCell 64 = .ok (.invokestatic 121, 3) := by decide +kernel
theorem dMD_measureCell_67 : decode cMD_measureCell 67 = .ok (.iastore, 1) := by decide +kernel
theorem dMD_measureCell_68 : decode cMD_measureCell 68 = .ok (.return_, 1) := by decide +kernel
theorem dMD_measureCell_69 : decode cMD_measureCell 69 = .ok (.aload_n 0, 1) := by decide +kernel
theorem dMD_measureCell_70 : decode cMD_measureCell 70 = .ok (.getfield 95, 3) := by decide +kernel
theorem dMD_measureCell_73 : decode cMD_measureCell 73 = .ok (.aload_n 0, 1) := by decide +kernel
theorem dMD_measureCell_74 : decode cMD_measureCell 74 = .ok (.getfield 26, 3) := by decide +kernel
theorem dMD_measureCell_77 : decode cMD_measureCell 77 = .ok (.iload_n 1, 1) := by decide +kernel
theorem dMD_measureCell_78 : decode cMD_measureCell 78 = .ok (.iaload, 1) := by decide +kernel
theorem dMD_measureCell_79 : decode cMD_measureCell 79 = .ok (.iconst 1, 1) := by decide +kernel
theorem dMD_measureCell_80 : decode cMD_measureCell 80 = .ok (.isub, 1) := by decide +kernel
theorem dMD_measureCell_81 : decode cMD_measureCell 81 = .ok (.imul, 1) := by decide +kernel
theorem dMD_measureCell_82 : decode cMD_measureCell 82 = .ok (.istore 4, 2) := by decide +kernel
theorem dMD_measureCell_84 : decode cMD_measureCell 84 = .ok (.aload_n 0, 1) := by decide +kernel
theorem dMD_measureCell_85 : decode cMD_measureCell 85 = .ok (.aload_n 0, 1) := by decide +kernel
theorem dMD_measureCell_86 : decode cMD_measureCell 86 = .ok (.getfield 56, 3) := by decide +kernel
theorem dMD_measureCell_89 : decode cMD_measureCell 89 = .ok (.invokevirtual 124, 3) := by decide +kernel
theorem dMD_measureCell_92 : decode cMD_measureCell 92 = .ok (.aload_n 0, 1) := by decide +kernel
theorem dMD_measureCell_93 : decode cMD_measureCell 93 = .ok (.getfield 35, 3) := by decide +kernel
theorem dMD_measureCell_96 : decode cMD_measureCell 96 = .ok (.iload_n 1, 1) := by decide +kernel
theorem dMD_measureCell_97 : decode cMD_measureCell 97 = .ok (.iaload, 1) := by decide +kernel
theorem dMD_measureCell_98 : decode cMD_measureCell 98 = .ok (.aload_n 0, 1) := by decide +kernel
theorem dMD_measureCell_99 : decode cMD_measureCell 99 = .ok (.getfield 53, 3) := by decide +kernel
theorem dMD_measureCell_102 : decode cMD_measureCell 102 = .ok (.iload_n 2, 1) := by decide +kernel
theorem dMD_measureCell_103 : decode cMD_measureCell 103 = .ok (.iload_n 3, 1) := by decide +kernel
theorem dMD_measureCell_104 : decode cMD_measureCell 104 = .ok (.invokestatic 128, 3) := by decide +kernel
theorem dMD_measureCell_107 : decode cMD_measureCell 107 = .ok (.isub, 1) := by decide +kernel
theorem dMD_measureCell_108 : decode cMD_measureCell 108 = .ok (.iload 4, 2) := by decide +kernel
theorem dMD_measureCell_110 : decode cMD_measureCell 110 = .ok (.isub, 1) := by decide +kernel
theorem dMD_measureCell_111 : decode cMD_measureCell 111 = .ok (.istore 5, 2) := by decide +kernel
theorem dMD_measureCell_113 : decode cMD_measureCell 113 = .ok (.aload_n 0, 1) := by decide +kernel
end
section
theorem dMD_measureCell_114 : decode cMD_measureCell 114 = .ok (.getfield 38, 3) := by decide +kernel
theorem dMD_measureCell_117 : decode cMD_measureCell 117 = .ok (.iload_n 1, 1) := by decide +kernel
theorem dMD_measureCell_118 : decode cMD_measureCell 118 = .ok (.iaload, 1) := by decide +kernel
theorem dMD_measureCell_119 : decode cMD_measureCell 119 = .ok (.aload_n 0, 1) := by decide +kernel
theorem dMD_measureCell_120 : decode cMD_measureCell 120 = .ok (.getfield 56, 3) := by decide +kernel
theorem dMD_measureCell_123 : decode cMD_measureCell 123 = .ok (.iload_n 2, 1) := by decide +kernel
theorem dMD_measureCell_124 : decode cMD_measureCell 124 = .ok (.iload_n 3, 1) := by decide +kernel
theorem dMD_measureCell_125 : decode cMD_measureCell 125 = .ok (.invokestatic 128, 3) := by decide +kernel
theorem dMD_measureCell_128 : decode cMD_measureCell 128 = .ok (.isub, 1) := by decide +kernel
theorem dMD_measureCell_129 : decode cMD_measureCell 129 = .ok (.iload 4, 2) := by decide +kernel
theorem dMD_measureCell_131 : decode cMD_measureCell 131 = .ok (.isub, 1) := by decide +kernel
theorem dMD_measureCell_132 : decode cMD_measureCell 132 = .ok (.istore 6, 2) := by decide +kernel
theorem dMD_measureCell_134 : decode cMD_measureCell 134 = .ok (.iload 5, 2) := by decide +kernel
theorem dMD_measureCell_136 : decode cMD_measureCell 136 = .ok (.ifCond .le 15, 3) := by decide +kernel
theorem dMD_measureCell_139 : decode cMD_measureCell 139 = .ok (.aload_n 0, 1) := by decide +kernel
theorem dMD_measureCell_140 : decode cMD_measureCell 140 = .ok (.iload 5, 2) := by decide +kernel
theorem dMD_measureCell_142 : decode cMD_measureCell 142 = .ok (.aload_n 0, 1) := by decide +kernel
theorem dMD_measureCell_143 : decode cMD_measureCell 143 = .ok (.getfield 53, 3) := by decide +kernel
theorem dMD_measureCell_146 : decode cMD_measureCell 146 = .ok (.iload_n 2, 1) := by decide +kernel
theorem dMD_measureCell_147 : decode cMD_measureCell 147 = .ok (.iload_n 3, 1) := by decide +kernel
theorem dMD_measureCell_148 : decode cMD_measureCell 148 = .ok (.invokevirtual 132, 3) := by decide +kernel
theorem dMD_measureCell_151 : decode cMD_measureCell 151 = .ok (.iload 6, 2) := by decide +kernel
theorem dMD_measureCell_153 : decode cMD_measureCell 153 = .ok (.ifCond .le 15, 3) := by decide +kernel
theorem dMD_measureCell_156 : decode cMD_measureCell 156 = .ok (.aload_n 0, 1) := by decide +kernel
theorem dMD_measureCell_157 : decode cMD_measureCell 157 = .ok (.iload 6, 2) := by decide +kernel
theorem dMD_measureCell_159 : decode cMD_measureCell 159 = .ok (.aload_n 0, 1) := by decide +kernel
theorem dMD_measureCell_160 : decode cMD_measureCell 160 = .ok (.getfield 56, 3) := by decide +kernel
theorem dMD_measureCell_163 : decode cMD_measureCell 163 = .ok (.iload_n 2, 1) := by decide +kernel
theorem dMD_measureCell_164 : decode cMD_measureCell 164 = .ok (.iload_n 3, 1) := by decide +kernel
theorem dMD_measureCell_165 : decode cMD_measureCell 165 = .ok (.invokevirtual 132, 3) := by decide +kernel
theorem dMD_measureCell_168 : decode cMD_measureCell 168 = .ok (.iload_n 2, 1) := by decide +kernel
theorem dMD_measureCell_169 : decode cMD_measureCell 169 = .ok (.istore 7, 2) := by decide +kernel
theorem dMD_measureCell_171 : decode cMD_measureCell 171 = .ok (.iload 7, 2) := by decide +kernel
theorem dMD_measureCell_173 : decode cMD_measureCell 173 = .ok (.iload_n 3, 1) := by decide +kernel
theorem dMD_measureCell_174 : decode cMD_measureCell 174 = .ok (.if_icmp .ge 33, 3) := by decide +kernel
theorem dMD_measureCell_177 : decode cMD_measureCell 177 = .ok (.aload_n 0, 1) := by decide +kernel
theorem dMD_measureCell_178 : decode cMD_measureCell 178 = .ok (.getfield 56, 3) := by decide +kernel
theorem dMD_measureCell_181 : decode cMD_measureCell 181 = .ok (.iload 7, 2) := by decide +kernel
theorem dMD_measureCell_183 : decode cMD_measureCell 183 = .ok (.aload_n 0, 1) := by decide +kernel
theorem dMD_measureCell_184 : decode cMD_measureCell 184 = .ok (.getfield 56, 3) := by decide +kernel
theorem dMD_measureCell_187 : decode cMD_measureCell 187 = .ok (.iload 7, 2) := by decide +kernel
theorem dMD_measureCell_189 : decode cMD_measureCell 189 = .ok (.iaload, 1) := by decide +kernel
theorem dMD_measureCell_190 : decode cMD_measureCell 190 = .ok (.aload_n 0, 1) := by decide +kernel
theorem dMD_measureCell_191 : decode cMD_measureCell 191 = .ok (.getfield 53, 3) := by decide +kernel
theorem dMD_measureCell_194 : decode cMD_measureCell 194 = .ok (.iload 7, 2) := by decide +kernel
theorem dMD_measureCell_196 : decode cMD_measureCell 196 = .ok (.iaload, 1) := by decide +kernel
theorem dMD_measureCell_197 : decode cMD_measureCell 197 = .ok (.invokestatic 121, 3) := by decide +kernel
theorem dMD_measureCell_200 : decode cMD_measureCell 200 = .ok (.iastore, 1) := by decide +kernel
theorem dMD_measureCell_201 : decode cMD_measureCell 201 = .ok (.iinc 7 1, 3) := by decide +kernel
theorem dMD_measureCell_204 : decode cMD_measureCell 204 = .ok (.goto (-33), 3) := by decide +kernel
theorem dMD_measureCell_207 : decode cMD_measureCell 207 = .ok (.return_, 1) := by decide +kernel
theorem dMD_overlaps_0 : decode cMD_overlaps 0 = .ok (.iconst 0, 1) := by decide +kernel
theorem dMD_overlaps_1 : decode cMD_overlaps 1 = .ok (.istore_n 1, 1) := by decide +kernel
theorem dMD_overlaps_2 : decode cMD_overlaps 2 = .ok (.iconst 0, 1) := by decide +kernel
theorem dMD_overlaps_3 : decode cMD_overlaps 3 = .ok (.istore_n 2, 1) := by decide +kernel
theorem dMD_overlaps_4 : decode cMD_overlaps 4 = .ok (.iload_n 2, 1) := by decide +kernel
theorem dMD_overlaps_5 : decode cMD_overlaps 5 = .ok (.sipush 144, 3) := by decide +kernel
theorem dMD_overlaps_8 : decode cMD_overlaps 8 = .ok (.if_icmp .ge 37, 3) := by decide +kernel
theorem dMD_overlaps_11 : decode cMD_overlaps 11 = .ok (.aload_n 0, 1) := by decide +kernel
theorem dMD_overlaps_12 : decode cMD_overlaps 12 = .ok (.iload_n 2, 1) := by decide +kernel
theorem dMD_overlaps_13 : decode cMD_overlaps 13 = .ok (.bipush 12, 2) := by decide +kernel
theorem dMD_overlaps_15 : decode cMD_overlaps 15 = .ok (.irem, 1) := by decide +kernel
theorem dMD_overlaps_16 : decode cMD_overlaps 16 = .ok (.iload_n 2, 1) := by decide +kernel
theorem dMD_overlaps_17 : decode cMD_overlaps 17 = .ok (.bipush 12, 2) := by decide +kernel
theorem dMD_overlaps_19 : decode cMD_overlaps 19 = .ok (.idiv, 1) := by decide +kernel
theorem dMD_overlaps_20 : decode cMD_overlaps 20 = .ok (.invokevirtual 109, 3) := by decide +kernel
theorem dMD_overlaps_23 : decode cMD_overlaps 23 = .ok (.istore_n 3, 1) := by decide +kernel
theorem dMD_overlaps_24 : decode cMD_overlaps 24 = .ok (.iload_n 3, 1) := by decide +kernel
theorem dMD_overlaps_25 : decode cMD_overlaps 25 = .ok (.iconst 1, 1) := by decide +kernel
theorem dMD_overlaps_26 : decode cMD_overlaps 26 = .ok (.if_icmp .le 11, 3) := by decide +kernel
theorem dMD_overlaps_29 : decode cMD_overlaps 29 = .ok (.iload_n 1, 1) := by decide +kernel
theorem dMD_overlaps_30 : decode cMD_overlaps 30 = .ok (.iload_n 3, 1) := by decide +kernel
theorem dMD_overlaps_31 : decode cMD_overlaps 31 = .ok (.iadd, 1) := by decide +kernel
theorem dMD_overlaps_32 : decode cMD_overlaps 32 = .ok (.iconst 1, 1) := by decide +kernel
theorem dMD_overlaps_33 : decode cMD_overlaps 33 = .ok (.isub, 1) := by decide +kernel
theorem dMD_overlaps_34 : decode cMD_overlaps 34 = .ok (.goto 4, 3) := by decide +kernel
theorem dMD_overlaps_37 : decode cMD_overlaps 37 = .ok (.iload_n 1, 1) := by decide +kernel
theorem dMD_overlaps_38 : decode cMD_overlaps 38 = .ok (.istore_n 1, 1) := by decide +kernel
theorem dMD_overlaps_39 : decode cMD_overlaps 39 = .ok (.iinc 2 1, 3) := by decide +kernel
theorem dMD_overlaps_42 : decode cMD_overlaps 42 = .ok (.goto (-38), 3) := by decide +kernel
theorem dMD_overlaps_45 : decode cMD_overlaps 45 = .ok (.iload_n 1, 1) := by decide +kernel
theorem dMD_overlaps_46 : decode cMD_overlaps 46 = .ok (.ireturn, 1) := by decide +kernel
theorem dMD_place_0 : decode cMD_place 0 = .ok (.aload_n 0, 1) := by decide +kernel
theorem dMD_place_1 : decode cMD_place 1 = .ok (.iload_n 1, 1) := by decide +kernel
theorem dMD_place_2 : decode cMD_place 2 = .ok (.invokevirtual 89, 3) := by decide +kernel
theorem dMD_place_5 : decode cMD_place 5 = .ok (.ifCond .eq 12, 3) := by decide +kernel
theorem dMD_place_8 : decode cMD_place 8 = .ok (.iload_n 2, 1) := by decide +kernel
theorem dMD_place_9 : decode cMD_place 9 = .ok (.ifCond .lt 8, 3) := by decide +kernel
theorem dMD_place_12 : decode cMD_place 12 = .ok (.iload_n 2, 1) := by decide +kernel
theorem dMD_place_13 : decode cMD_place 13 = .ok (.iconst 3, 1) := by decide +kernel
theorem dMD_place_14 : decode cMD_place 14 = .ok (.if_icmp .le 5, 3) := by decide +kernel
theorem dMD_place_17 : decode cMD_place 17 = .ok (.iconst (-1), 1) := by decide +kernel
theorem dMD_place_18 : decode cMD_place 18 = .ok (.ireturn, 1) := by decide +kernel
theorem dMD_place_19 : decode cMD_place 19 = .ok (.aload_n 0, 1) := by decide +kernel
theorem dMD_place_20 : decode cMD_place 20 = .ok (.invokevirtual 149, 3) := by decide +kernel
theorem dMD_place_23 : decode cMD_place 23 = .ok (.aload_n 0, 1) := by decide +kernel
theorem dMD_place_24 : decode cMD_place 24 = .ok (.invokevirtual 152, 3) := by decide +kernel
theorem dMD_place_27 : decode cMD_place 27 = .ok (.aload_n 0, 1) := by decide +kernel
theorem dMD_place_28 : decode cMD_place 28 = .ok (.getfield 20, 3) := by decide +kernel
theorem dMD_place_31 : decode cMD_place 31 = .ok (.iload_n 1, 1) := by decide +kernel
theorem dMD_place_32 : decode cMD_place 32 = .ok (.iaload, 1) := by decide +kernel
theorem dMD_place_33 : decode cMD_place 33 = .ok (.istore_n 3, 1) := by decide +kernel
theorem dMD_place_34 : decode cMD_place 34 = .ok (.aload_n 0, 1) := by decide +kernel
theorem dMD_place_35 : decode cMD_place 35 = .ok (.getfield 23, 3) := by decide +kernel
theorem dMD_place_38 : decode cMD_place 38 = .ok (.iload_n 1, 1) := by decide +kernel
theorem dMD_place_39 : decode cMD_place 39 = .ok (.iaload, 1) := by decide +kernel
theorem dMD_place_40 : decode cMD_place 40 = .ok (.istore 4, 2) := by decide +kernel
theorem dMD_place_42 : decode cMD_place 42 = .ok (.iload_n 3, 1) := by decide +kernel
theorem dMD_place_43 : decode cMD_place 43 = .ok (.aload_n 0, 1) := by decide +kernel
theorem dMD_place_44 : decode cMD_place 44 = .ok (.getfield 26, 3) := by decide +kernel
theorem dMD_place_47 : decode cMD_place 47 = .ok (.iload_n 1, 1) := by decide +kernel
theorem dMD_place_48 : decode cMD_place 48 = .ok (.iaload, 1) := by decide +kernel
theorem dMD_place_49 : decode cMD_place 49 = .ok (.iadd, 1) := by decide +kernel
theorem dMD_place_50 : decode cMD_place 50 = .ok (.istore 5, 2) := by decide +kernel
theorem dMD_place_52 : decode cMD_place 52 = .ok (.iload 4, 2) := by decide +kernel
theorem dMD_place_54 : decode cMD_place 54 = .ok (.aload_n 0, 1) := by decide +kernel
theorem dMD_place_55 : decode cMD_place 55 = .ok (.iload_n 1, 1) := by decide +kernel
theorem dMD_place_56 : decode cMD_place 56 = .ok (.invokevirtual 102, 3) := by decide +kernel
theorem dMD_place_59 : decode cMD_place 59 = .ok (.iadd, 1) := by decide +kernel
theorem dMD_place_60 : decode cMD_place 60 = .ok (.istore 6, 2) := by decide +kernel
theorem dMD_place_62 : decode cMD_place 62 = .ok (.iload_n 2, 1) := by decide +kernel
theorem dMD_place_63 : decode cMD_place 63 = .ok (.ifCond .ne 22, 3) := by decide +kernel
theorem dMD_place_66 : decode cMD_place 66 = .ok (.aload_n 0, 1) := by decide +kernel
theorem dMD_place_67 : decode cMD_place 67 = .ok (.getfield 59, 3) := by decide +kernel
theorem dMD_place_70 : decode cMD_place 70 = .ok (.iconst 0, 1) := by decide +kernel
theorem dMD_place_71 : decode cMD_place 71 = .ok (.iload_n 3, 1) := by decide +kernel
theorem dMD_place_72 : decode cMD_place 72 = .ok (.invokestatic 128, 3) := by decide +kernel
theorem dMD_place_75 : decode cMD_place 75 = .ok (.aload_n 0, 1) := by decide +kernel
theorem dMD_place_76 : decode cMD_place 76 = .ok (.getfield 95, 3) := by decide +kernel
theorem dMD_place_79 : decode cMD_place 79 = .ok (.iload_n 3, 1) := by decide +kernel
theorem dMD_place_80 : decode cMD_place 80 = .ok (.iconst 1, 1) := by decide +kernel
theorem dMD_place_81 : decode cMD_place 81 = .ok (.iadd, 1) := by decide +kernel
theorem dMD_place_82 : decode cMD_place 82 = .ok (.imul, 1) := by decide +kernel
theorem dMD_place_83 : decode cMD_place 83 = .ok (.iadd, 1) := by decide +kernel
theorem dMD_place_84 : decode cMD_place 84 = .ok (.ireturn, 1) := by decide +kernel
theorem dMD_place_85 : decode cMD_place 85 = .ok (.iload_n 2, 1) := by decide +kernel
theorem dMD_place_86 : decode cMD_place 86 = .ok (.iconst 1, 1) := by decide +kernel
theorem dMD_place_87 : decode cMD_place 87 = .ok (.if_icmp .ne 24, 3) := by decide +kernel
theorem dMD_place_90 : decode cMD_place 90 = .ok (.aload_n 0, 1) := by decide +kernel
theorem dMD_place_91 : decode cMD_place 91 = .ok (.getfield 62, 3) := by decide +kernel
theorem dMD_place_94 : decode cMD_place 94 = .ok (.iconst 0, 1) := by decide +kernel
theorem dMD_place_95 : decode cMD_place 95 = .ok (.iload 4, 2) := by decide +kernel
theorem dMD_place_97 : decode cMD_place 97 = .ok (.invokestatic 128, 3) := by decide +kernel
theorem dMD_place_100 : decode cMD_place 100 = .ok (.aload_n 0, 1) := by decide +kernel
theorem dMD_place_101 : decode cMD_place 101 = .ok (.getfield 95, 3) := by decide +kernel
theorem dMD_place_104 : decode cMD_place 104 = .ok (.iload 4, 2) := by decide +kernel
theorem dMD_place_106 : decode cMD_place 106 = .ok (.iconst 1, 1) := by decide +kernel
theorem dMD_place_107 : decode cMD_place 107 = .ok (.iadd, 1) := by decide +kernel
theorem dMD_place_108 : decode cMD_place 108 = .ok (.imul, 1) := by decide +kernel
theorem dMD_place_109 : decode cMD_place 109 = .ok (.iadd, 1) := by decide +kernel
theorem dMD_place_110 : decode cMD_place 110 = .ok (.ireturn, 1) := by decide +kernel
theorem dMD_place_111 : decode cMD_place 111 = .ok (.iload_n 2, 1) := by decide +kernel
theorem dMD_place_112 : decode cMD_place 112 = .ok (.iconst 2, 1) := by decide +kernel
theorem dMD_place_113 : decode cMD_place 113 = .ok (.if_icmp .ne 28, 3) := by decide +kernel
theorem dMD_place_116 : decode cMD_place 116 = .ok (.aload_n 0, 1) := by decide +kernel
theorem dMD_place_117 : decode cMD_place 117 = .ok (.getfield 59, 3) := by decide +kernel
theorem dMD_place_120 : decode cMD_place 120 = .ok (.iload_n 3, 1) := by decide +kernel
theorem dMD_place_121 : decode cMD_place 121 = .ok (.iload 5, 2) := by decide +kernel
theorem dMD_place_123 : decode cMD_place 123 = .ok (.invokestatic 128, 3) := by decide +kernel
theorem dMD_place_126 : decode cMD_place 126 = .ok (.aload_n 0, 1) := by decide +kernel
theorem dMD_place_127 : decode cMD_place 127 = .ok (.getfield 95, 3) := by decide +kernel
theorem dMD_place_130 : decode cMD_place 130 = .ok (.iload 5, 2) := by decide +kernel
theorem dMD_place_132 : decode cMD_place 132 = .ok (.iload_n 3, 1) := by decide +kernel
theorem dMD_place_133 : decode cMD_place 133 = .ok (.isub, 1) := by decide +kernel
theorem dMD_place_134 : decode cMD_place 134 = .ok (.iconst 1, 1) := by decide +kernel
theorem dMD_place_135 : decode cMD_place 135 = .ok (.isub, 1) := by decide +kernel
theorem dMD_place_136 : decode cMD_place 136 = .ok (.imul, 1) := by decide +kernel
theorem dMD_place_137 : decode cMD_place 137 = .ok (.iadd, 1) := by decide +kernel
theorem dMD_place_138 : decode cMD_place 138 = .ok (.goto 27, 3) := by decide +kernel
theorem dMD_place_141 : decode cMD_place 141 = .ok (.aload_n 0, 1) := by decide +kernel
theorem dMD_place_142 : decode cMD_place 142 = .ok (.getfield 62, 3) := by decide +kernel
theorem dMD_place_145 : decode cMD_place 145 = .ok (.iload 4, 2) := by decide +kernel
theorem dMD_place_147 : decode cMD_place 147 = .ok (.iload 6, 2) := by decide +kernel
theorem dMD_place_149 : decode cMD_place 149 = .ok (.invokestatic 128, 3) := by decide +kernel
theorem dMD_place_152 : decode cMD_place 152 = .ok (.aload_n 0, 1) := by decide +kernel
theorem dMD_place_153 : decode cMD_place 153 = .ok (.getfield 95, 3) := by decide +kernel
theorem dMD_place_156 : decode cMD_place 156 = .ok (.iload 6, 2) := by decide +kernel
theorem dMD_place_158 : decode cMD_place 158 = .ok (.iload 4, 2) := by decide +kernel
theorem dMD_place_160 : decode cMD_place 160 = .ok (.isub, 1) := by decide +kernel
theorem dMD_place_161 : decode cMD_place 161 = .ok (.iconst 1, 1) := by decide +kernel
theorem dMD_place_162 : decode cMD_place 162 = .ok (.isub, 1) := by decide +kernel
theorem dMD_place_163 : decode cMD_place 163 = .ok (.imul, 1) := by decide +kernel
theorem dMD_place_164 : decode cMD_place 164 = .ok (.iadd, 1) := by decide +kernel
theorem dMD_place_165 : decode cMD_place 165 = .ok (.ireturn, 1) := by decide +kernel
theorem dMD_room_0 : decode cMD_room 0 = .ok (.iconst 0, 1) := by decide +kernel
theorem dMD_room_1 : decode cMD_room 1 = .ok (.aload_n 0, 1) := by decide +kernel
theorem dMD_room_2 : decode cMD_room 2 = .ok (.getfield 92, 3) := by decide +kernel
theorem dMD_room_5 : decode cMD_room 5 = .ok (.aload_n 0, 1) := by decide +kernel
theorem dMD_room_6 : decode cMD_room 6 = .ok (.getfield 95, 3) := by decide +kernel
theorem dMD_room_9 : decode cMD_room 9 = .ok (.aload_n 0, 1) := by decide +kernel
theorem dMD_room_10 : decode cMD_room 10 = .ok (.invokevirtual 113, 3) := by decide +kernel
theorem dMD_room_13 : decode cMD_room 13 = .ok (.iconst 1, 1) := by decide +kernel
theorem dMD_room_14 : decode cMD_room 14 = .ok (.iadd, 1) := by decide +kernel
theorem dMD_room_15 : decode cMD_room 15 = .ok (.imul, 1) := by decide +kernel
theorem dMD_room_16 : decode cMD_room 16 = .ok (.isub, 1) := by decide +kernel
theorem dMD_room_17 : decode cMD_room 17 = .ok (.invokestatic 121, 3) := by decide +kernel
theorem dMD_room_20 : decode cMD_room 20 = .ok (.ireturn, 1) := by decide +kernel
theorem dMD_row_0 : decode cMD_row 0 = .ok (.aload_n 0, 1) := by decide +kernel
theorem dMD_row_1 : decode cMD_row 1 = .ok (.getfield 7, 3) := by decide +kernel
theorem dMD_row_4 : decode cMD_row 4 = .ok (.iconst 1, 1) := by decide +kernel
theorem dMD_row_5 : decode cMD_row 5 = .ok (.isub, 1) := by decide +kernel
theorem dMD_row_6 : decode cMD_row 6 = .ok (.istore_n 1, 1) := by decide +kernel
theorem dMD_row_7 : decode cMD_row 7 = .ok (.aload_n 0, 1) := by decide +kernel
theorem dMD_row_8 : decode cMD_row 8 = .ok (.getfield 13, 3) := by decide +kernel
theorem dMD_row_11 : decode cMD_row 11 = .ok (.iload_n 1, 1) := by decide +kernel
theorem dMD_row_12 : decode cMD_row 12 = .ok (.iaload, 1) := by decide +kernel
theorem dMD_row_13 : decode cMD_row 13 = .ok (.aload_n 0, 1) := by decide +kernel
theorem dMD_row_14 : decode cMD_row 14 = .ok (.getfield 17, 3) := by decide +kernel
theorem dMD_row_17 : decode cMD_row 17 = .ok (.iload_n 1, 1) := by decide +kernel
theorem dMD_row_18 : decode cMD_row 18 = .ok (.iaload, 1) := by decide +kernel
theorem dMD_row_19 : decode cMD_row 19 = .ok (.iadd, 1) := by decide +kernel
theorem dMD_row_20 : decode cMD_row 20 = .ok (.istore_n 2, 1) := by decide +kernel
theorem dMD_row_21 : decode cMD_row 21 = .ok (.iload_n 2, 1) := by decide +kernel
theorem dMD_row_22 : decode cMD_row 22 = .ok (.bipush 11, 2) := by decide +kernel
theorem dMD_row_24 : decode cMD_row 24 = .ok (.if_icmp .le 5, 3) := by decide +kernel
theorem dMD_row_27 : decode cMD_row 27 = .ok (.iconst (-1), 1) := by decide +kernel
theorem dMD_row_28 : decode cMD_row 28 = .ok (.ireturn, 1) := by decide +kernel
theorem dMD_row_29 : decode cMD_row 29 = .ok (.aload_n 0, 1) := by decide +kernel
theorem dMD_row_30 : decode cMD_row 30 = .ok (.getfield 17, 3) := by decide +kernel
theorem dMD_row_33 : decode cMD_row 33 = .ok (.iload_n 1, 1) := by decide +kernel
theorem dMD_row_34 : decode cMD_row 34 = .ok (.aload_n 0, 1) := by decide +kernel
theorem dMD_row_35 : decode cMD_row 35 = .ok (.getfield 17, 3) := by decide +kernel
theorem dMD_row_38 : decode cMD_row 38 = .ok (.iload_n 1, 1) := by decide +kernel
theorem dMD_row_39 : decode cMD_row 39 = .ok (.iaload, 1) := by decide +kernel
theorem dMD_row_40 : decode cMD_row 40 = .ok (.iconst 1, 1) := by decide +kernel
theorem dMD_row_41 : decode cMD_row 41 = .ok (.iadd, 1) := by decide +kernel
theorem dMD_row_42 : decode cMD_row 42 = .ok (.iastore, 1) := by decide +kernel
theorem dMD_row_43 : decode cMD_row 43 = .ok (.aload_n 0, 1) := by decide +kernel
theorem dMD_row_44 : decode cMD_row 44 = .ok (.iload_n 1, 1) := by decide +kernel
theorem dMD_row_45 : decode cMD_row 45 = .ok (.putfield 50, 3) := by decide +kernel
theorem dMD_row_48 : decode cMD_row 48 = .ok (.aload_n 0, 1) := by decide +kernel
theorem dMD_row_49 : decode cMD_row 49 = .ok (.iload_n 2, 1) := by decide +kernel
theorem dMD_row_50 : decode cMD_row 50 = .ok (.putfield 79, 3) := by decide +kernel
theorem dMD_row_53 : decode cMD_row 53 = .ok (.aload_n 0, 1) := by decide +kernel
theorem dMD_row_54 : decode cMD_row 54 = .ok (.iconst 0, 1) := by decide +kernel
theorem dMD_row_55 : decode cMD_row 55 = .ok (.putfield 82, 3) := by decide +kernel
theorem dMD_row_58 : decode cMD_row 58 = .ok (.iload_n 2, 1) := by decide +kernel
theorem dMD_row_59 : decode cMD_row 59 = .ok (.ireturn, 1) := by decide +kernel
theorem dMD_rows_0 : decode cMD_rows 0 = .ok (.aload_n 0, 1) := by decide +kernel
theorem dMD_rows_1 : decode cMD_rows 1 = .ok (.aload_n 0, 1) := by decide +kernel
theorem dMD_rows_2 : decode cMD_rows 2 = .ok (.getfield 7, 3) := by decide +kernel
theorem dMD_rows_5 : decode cMD_rows 5 = .ok (.iconst 1, 1) := by decide +kernel
theorem dMD_rows_6 : decode cMD_rows 6 = .ok (.isub, 1) := by decide +kernel
theorem dMD_rows_7 : decode cMD_rows 7 = .ok (.invokevirtual 75, 3) := by decide +kernel
theorem dMD_rows_10 : decode cMD_rows 10 = .ok (.ireturn, 1) := by decide +kernel
theorem dMD_share_0 : decode cMD_share 0 = .ok (.iconst 0, 1) := by decide +kernel
theorem dMD_share_1 : decode cMD_share 1 = .ok (.istore 5, 2) := by decide +kernel
theorem dMD_share_3 : decode cMD_share 3 = .ok (.iload_n 3, 1) := by decide +kernel
theorem dMD_share_4 : decode cMD_share 4 = .ok (.istore 6, 2) := by decide +kernel
theorem dMD_share_6 : decode cMD_share 6 = .ok (.iload 6, 2) := by decide +kernel
theorem dMD_share_8 : decode cMD_share 8 = .ok (.iload 4, 2) := by decide +kernel
theorem dMD_share_10 : decode cMD_share 10 = .ok (.if_icmp .ge 21, 3) := by decide +kernel
theorem dMD_share_13 : decode cMD_share 13 = .ok (.iload 5, 2) := by decide +kernel
theorem dMD_share_15 : decode cMD_share 15 = .ok (.aload_n 0, 1) := by decide +kernel
theorem dMD_share_16 : decode cMD_share 16 = .ok (.getfield 69, 3) := by decide +kernel
theorem dMD_share_19 : decode cMD_share 19 = .ok (.iload 6, 2) := by decide +kernel
theorem dMD_share_21 : decode cMD_share 21 = .ok (.iaload, 1) := by decide +kernel
theorem dMD_share_22 : decode cMD_share 22 = .ok (.iadd, 1) := by decide +kernel
theorem dMD_share_23 : decode cMD_share 23 = .ok (.istore 5, 2) := by decide +kernel
theorem dMD_share_25 : decode cMD_share 25 = .ok (.iinc 6 1, 3) := by decide +kernel
theorem dMD_share_28 : decode cMD_share 28 = .ok (.goto (-22), 3) := by decide +kernel
theorem dMD_share_31 : decode cMD_share 31 = .ok (.iload_n 1, 1) := by decide +kernel
theorem dMD_share_32 : decode cMD_share 32 = .ok (.istore 6, 2) := by decide +kernel
theorem dMD_share_34 : decode cMD_share 34 = .ok (.iload_n 3, 1) := by decide +kernel
theorem dMD_share_35 : decode cMD_share 35 = .ok (.istore 7, 2) := by decide +kernel
theorem dMD_share_37 : decode cMD_share 37 = .ok (.iload 7, 2) := by decide +kernel
theorem dMD_share_39 : decode cMD_share 39 = .ok (.iload 4, 2) := by decide +kernel
theorem dMD_share_41 : decode cMD_share 41 = .ok (.if_icmp .ge 59, 3) := by decide +kernel
theorem dMD_share_44 : decode cMD_share 44 = .ok (.iload 5, 2) := by decide +kernel
theorem dMD_share_46 : decode cMD_share 46 = .ok (.ifCond .ne 12, 3) := by decide +kernel
theorem dMD_share_49 : decode cMD_share 49 = .ok (.iload_n 1, 1) := by decide +kernel
theorem dMD_share_50 : decode cMD_share 50 = .ok (.iload 4, 2) := by decide +kernel
theorem dMD_share_52 : decode cMD_share 52 = .ok (.iload_n 3, 1) := by decide +kernel
theorem dMD_share_53 : decode cMD_share 53 = .ok (.isub, 1) := by decide +kernel
theorem dMD_share_54 : decode cMD_share 54 = .ok (.idiv, 1) := by decide +kernel
theorem dMD_share_55 : decode cMD_share 55 = .ok (.goto 19, 3) := by decide +kernel
theorem dMD_share_58 : decode cMD_share 58 = .ok (.iload_n 1, 1) := by decide +kernel
theorem dMD_share_59 : decode cMD_share 59 = .ok (.i2l, 1) := by decide +kernel
theorem dMD_share_60 : decode cMD_share 60 = .ok (.aload_n 0, 1) := by decide +kernel
theorem dMD_share_61 : decode cMD_share 61 = .ok (.getfield 69, 3) := by decide +kernel
theorem dMD_share_64 : decode cMD_share 64 = .ok (.iload 7, 2) := by decide +kernel
theorem dMD_share_66 : decode cMD_share 66 = .ok (.iaload, 1) := by decide +kernel
theorem dMD_share_67 : decode cMD_share 67 = .ok (.i2l, 1) := by decide +kernel
theorem dMD_share_68 : decode cMD_share 68 = .ok (.lmul, 1) := by decide +kernel
theorem dMD_share_69 : decode cMD_share 69 = .ok (.iload 5, 2) := by decide +kernel
theorem dMD_share_71 : decode cMD_share 71 = .ok (.i2l, 1) := by decide +kernel
theorem dMD_share_72 : decode cMD_share 72 = .ok (.ldiv, 1) := by decide +kernel
theorem dMD_share_73 : decode cMD_share 73 = .ok (.l2i, 1) := by decide +kernel
theorem dMD_share_74 : decode cMD_share 74 = .ok (.istore 8, 2) := by decide +kernel
theorem dMD_share_76 : decode cMD_share 76 = .ok (.aload_n 2, 1) := by decide +kernel
theorem dMD_share_77 : decode cMD_share 77 = .ok (.iload 7, 2) := by decide +kernel
theorem dMD_share_79 : decode cMD_share 79 = .ok (.aload_n 2, 1) := by decide +kernel
theorem dMD_share_80 : decode cMD_share 80 = .ok (.iload 7, 2) := by decide +kernel
theorem dMD_share_82 : decode cMD_share 82 = .ok (.iaload, 1) := by decide +kernel
theorem dMD_share_83 : decode cMD_share 83 = .ok (.iload 8, 2) := by decide +kernel
theorem dMD_share_85 : decode cMD_share 85 = .ok (.iadd, 1) := by decide +kernel
theorem dMD_share_86 : decode cMD_share 86 = .ok (.iastore, 1) := by decide +kernel
theorem dMD_share_87 : decode cMD_share 87 = .ok (.iload 6, 2) := by decide +kernel
theorem dMD_share_89 : decode cMD_share 89 = .ok (.iload 8, 2) := by decide +kernel
theorem dMD_share_91 : decode cMD_share 91 = .ok (.isub, 1) := by decide +kernel
theorem dMD_share_92 : decode cMD_share 92 = .ok (.istore 6, 2) := by decide +kernel
theorem dMD_share_94 : decode cMD_share 94 = .ok (.iinc 7 1, 3) := by decide +kernel
theorem dMD_share_97 : decode cMD_share 97 = .ok (.goto (-60), 3) := by decide +kernel
theorem dMD_share_100 : decode cMD_share 100 = .ok (.iload_n 3, 1) := by decide +kernel
theorem dMD_share_101 : decode cMD_share 101 = .ok (.istore 7, 2) := by decide +kernel
theorem dMD_share_103 : decode cMD_share 103 = .ok (.iload 7, 2) := by decide +kernel
theorem dMD_share_105 : decode cMD_share 105 = .ok (.iload 4, 2) := by decide +kernel
theorem dMD_share_107 : decode cMD_share 107 = .ok (.if_icmp .ge 30, 3) := by decide +kernel
theorem dMD_share_110 : decode cMD_share 110 = .ok (.iload 6, 2) := by decide +kernel
theorem dMD_share_112 : decode cMD_share 112 = .ok (.ifCond .le 25, 3) := by decide +kernel
theorem dMD_share_115 : decode cMD_share 115 = .ok (.aload_n 2, 1) := by decide +kernel
theorem dMD_share_116 : decode cMD_share 116 = .ok (.iload 7, 2) := by decide +kernel
theorem dMD_share_118 : decode cMD_share 118 = .ok (.aload_n 2, 1) := by decide +kernel
theorem dMD_share_119 : decode cMD_share 119 = .ok (.iload 7, 2) := by decide +kernel
theorem dMD_share_121 : decode cMD_share 121 = .ok (.iaload, 1) := by decide +kernel
theorem dMD_share_122 : decode cMD_share 122 = .ok (.iconst 1, 1) := by decide +kernel
theorem dMD_share_123 : decode cMD_share 123 = .ok (.iadd, 1) := by decide +kernel
theorem dMD_share_124 : decode cMD_share 124 = .ok (.iastore, 1) := by decide +kernel
theorem dMD_share_125 : decode cMD_share 125 = .ok (.iload 6, 2) := by decide +kernel
theorem dMD_share_127 : decode cMD_share 127 = .ok (.iconst 1, 1) := by decide +kernel
theorem dMD_share_128 : decode cMD_share 128 = .ok (.isub, 1) := by decide +kernel
theorem dMD_share_129 : decode cMD_share 129 = .ok (.istore 6, 2) := by decide +kernel
theorem dMD_share_131 : decode cMD_share 131 = .ok (.iinc 7 1, 3) := by decide +kernel
theorem dMD_share_134 : decode cMD_share 134 = .ok (.goto (-31), 3) := by decide +kernel
theorem dMD_share_137 : decode cMD_share 137 = .ok (.return_, 1) := by decide +kernel
theorem dMD_size_0 : decode cMD_size 0 = .ok (.iload_n 1, 1) := by decide +kernel
theorem dMD_size_1 : decode cMD_size 1 = .ok (.ifCond .eq 10, 3) := by decide +kernel
theorem dMD_size_4 : decode cMD_size 4 = .ok (.aload_n 0, 1) := by decide +kernel
theorem dMD_size_5 : decode cMD_size 5 = .ok (.invokevirtual 117, 3) := by decide +kernel
theorem dMD_size_8 : decode cMD_size 8 = .ok (.goto 7, 3) := by decide +kernel
theorem dMD_size_11 : decode cMD_size 11 = .ok (.aload_n 0, 1) := by decide +kernel
theorem dMD_size_12 : decode cMD_size 12 = .ok (.invokevirtual 113, 3) := by decide +kernel
theorem dMD_size_15 : decode cMD_size 15 = .ok (.istore_n 2, 1) := by decide +kernel
theorem dMD_size_16 : decode cMD_size 16 = .ok (.aload_n 0, 1) := by decide +kernel
theorem dMD_size_17 : decode cMD_size 17 = .ok (.invokevirtual 149, 3) := by decide +kernel
theorem dMD_size_20 : decode cMD_size 20 = .ok (.aload_n 0, 1) := by decide +kernel
theorem dMD_size_21 : decode cMD_size 21 = .ok (.invokevirtual 152, 3) := by decide +kernel
theorem dMD_size_24 : decode cMD_size 24 = .ok (.iload_n 2, 1) := by decide +kernel
theorem dMD_size_25 : decode cMD_size 25 = .ok (.ifCond .ne 7, 3) := by decide +kernel
theorem dMD_size_28 : decode cMD_size 28 = .ok (.iconst 0, 1) := by decide +kernel
theorem dMD_size_29 : decode cMD_size 29 = .ok (.goto 37, 3) := by decide +kernel
theorem dMD_size_32 : decode cMD_size 32 = .ok (.aload_n 0, 1) := by decide +kernel
theorem dMD_size_33 : decode cMD_size 33 = .ok (.getfield 95, 3) := by decide +kernel
theorem dMD_size_36 : decode cMD_size 36 = .ok (.iload_n 2, 1) := by decide +kernel
theorem dMD_size_37 : decode cMD_size 37 = .ok (.iconst 1, 1) := by decide +kernel
theorem dMD_size_38 : decode cMD_size 38 = .ok (.iadd, 1) := by decide +kernel
theorem dMD_size_39 : decode cMD_size 39 = .ok (.imul, 1) := by decide +kernel
theorem dMD_size_40 : decode cMD_size 40 = .ok (.iload_n 1, 1) := by decide +kernel
theorem dMD_size_41 : decode cMD_size 41 = .ok (.ifCond .eq 15, 3) := by decide +kernel
theorem dMD_size_44 : decode cMD_size 44 = .ok (.aload_n 0, 1) := by decide +kernel
theorem dMD_size_45 : decode cMD_size 45 = .ok (.getfield 62, 3) := by decide +kernel
theorem dMD_size_48 : decode cMD_size 48 = .ok (.iconst 0, 1) := by decide +kernel
theorem dMD_size_49 : decode cMD_size 49 = .ok (.iload_n 2, 1) := by decide +kernel
theorem dMD_size_50 : decode cMD_size 50 = .ok (.invokestatic 128, 3) := by decide +kernel
theorem dMD_size_53 : decode cMD_size 53 = .ok (.goto 12, 3) := by decide +kernel
theorem dMD_size_56 : decode cMD_size 56 = .ok (.aload_n 0, 1) := by decide +kernel
theorem dMD_size_57 : decode cMD_size 57 = .ok (.getfield 59, 3) := by decide +kernel
theorem dMD_size_60 : decode cMD_size 60 = .ok (.iconst 0, 1) := by decide +kernel
theorem dMD_size_61 : decode cMD_size 61 = .ok (.iload_n 2, 1) := by decide +kernel
theorem dMD_size_62 : decode cMD_size 62 = .ok (.invokestatic 128, 3) := by decide +kernel
theorem dMD_size_65 : decode cMD_size 65 = .ok (.iadd, 1) := by decide +kernel
theorem dMD_size_66 : decode cMD_size 66 = .ok (.ireturn, 1) := by decide +kernel
theorem dMD_slot_0 : decode cMD_slot 0 = .ok (.iconst (-1), 1) := by decide +kernel
theorem dMD_slot_1 : decode cMD_slot 1 = .ok (.istore_n 3, 1) := by decide +kernel
theorem dMD_slot_2 : decode cMD_slot 2 = .ok (.aload_n 0, 1) := by decide +kernel
theorem dMD_slot_3 : decode cMD_slot 3 = .ok (.getfield 72, 3) := by decide +kernel
theorem dMD_slot_6 : decode cMD_slot 6 = .ok (.iconst 1, 1) := by decide +kernel
theorem dMD_slot_7 : decode cMD_slot 7 = .ok (.isub, 1) := by decide +kernel
theorem dMD_slot_8 : decode cMD_slot 8 = .ok (.istore 4, 2) := by decide +kernel
theorem dMD_slot_10 : decode cMD_slot 10 = .ok (.iload 4, 2) := by decide +kernel
theorem dMD_slot_12 : decode cMD_slot 12 = .ok (.ifCond .lt 27, 3) := by decide +kernel
theorem dMD_slot_15 : decode cMD_slot 15 = .ok (.aload_n 0, 1) := by decide +kernel
theorem dMD_slot_16 : decode cMD_slot 16 = .ok (.iload 4, 2) := by decide +kernel
theorem dMD_slot_18 : decode cMD_slot 18 = .ok (.iload_n 1, 1) := by decide +kernel
theorem dMD_slot_19 : decode cMD_slot 19 = .ok (.iload_n 2, 1) := by decide +kernel
theorem dMD_slot_20 : decode cMD_slot 20 = .ok (.invokevirtual 105, 3) := by decide +kernel
theorem dMD_slot_23 : decode cMD_slot 23 = .ok (.ifCond .eq 8, 3) := by decide +kernel
theorem dMD_slot_26 : decode cMD_slot 26 = .ok (.iload 4, 2) := by decide +kernel
theorem dMD_slot_28 : decode cMD_slot 28 = .ok (.goto 4, 3) := by decide +kernel
theorem dMD_slot_31 : decode cMD_slot 31 = .ok (.iload_n 3, 1) := by decide +kernel
theorem dMD_slot_32 : decode cMD_slot 32 = .ok (.istore_n 3, 1) := by decide +kernel
theorem dMD_slot_33 : decode cMD_slot 33 = .ok (.iinc 4 (-1), 3) := by decide +kernel
theorem dMD_slot_36 : decode cMD_slot 36 = .ok (.goto (-26), 3) := by decide +kernel
theorem dMD_slot_39 : decode cMD_slot 39 = .ok (.iload_n 3, 1) := by decide +kernel
theorem dMD_slot_40 : decode cMD_slot 40 = .ok (.ireturn, 1) := by decide +kernel
theorem dMD_span_0 : decode cMD_span 0 = .ok (.aload_n 0, 1) := by decide +kernel
theorem dMD_span_1 : decode cMD_span 1 = .ok (.iload_n 1, 1) := by decide +kernel
theorem dMD_span_2 : decode cMD_span 2 = .ok (.invokevirtual 89, 3) := by decide +kernel
theorem dMD_span_5 : decode cMD_span 5 = .ok (.ifCond .eq 42, 3) := by decide +kernel
theorem dMD_span_8 : decode cMD_span 8 = .ok (.aload_n 0, 1) := by decide +kernel
theorem dMD_span_9 : decode cMD_span 9 = .ok (.getfield 20, 3) := by decide +kernel
theorem dMD_span_12 : decode cMD_span 12 = .ok (.iload_n 1, 1) := by decide +kernel
theorem dMD_span_13 : decode cMD_span 13 = .ok (.iaload, 1) := by decide +kernel
theorem dMD_span_14 : decode cMD_span 14 = .ok (.bipush 100, 2) := by decide +kernel
theorem dMD_span_16 : decode cMD_span 16 = .ok (.aload_n 0, 1) := by decide +kernel
theorem dMD_span_17 : decode cMD_span 17 = .ok (.getfield 23, 3) := by decide +kernel
theorem dMD_span_20 : decode cMD_span 20 = .ok (.iload_n 1, 1) := by decide +kernel
theorem dMD_span_21 : decode cMD_span 21 = .ok (.iaload, 1) := by decide +kernel
theorem dMD_span_22 : decode cMD_span 22 = .ok (.imul, 1) := by decide +kernel
theorem dMD_span_23 : decode cMD_span 23 = .ok (.iadd, 1) := by decide +kernel
theorem dMD_span_24 : decode cMD_span 24 = .ok (.sipush 10000, 3) := by decide +kernel
theorem dMD_span_27 : decode cMD_span 27 = .ok (.aload_n 0, 1) := by decide +kernel
theorem dMD_span_28 : decode cMD_span 28 = .ok (.getfield 26, 3) := by decide +kernel
theorem dMD_span_31 : decode cMD_span 31 = .ok (.iload_n 1, 1) := by decide +kernel
theorem dMD_span_32 : decode cMD_span 32 = .ok (.iaload, 1) := by decide +kernel
theorem dMD_span_33 : decode cMD_span 33 = .ok (.imul, 1) := by decide +kernel
theorem dMD_span_34 : decode cMD_span 34 = .ok (.iadd, 1) := by decide +kernel
theorem dMD_span_35 : decode cMD_span 35 = .ok (.ldc 120, 2) := by decide +kernel
theorem dMD_span_37 : decode cMD_span 37 = .ok (.aload_n 0, 1) := by decide +kernel
theorem dMD_span_38 : decode cMD_span 38 = .ok (.iload_n 1, 1) := by decide +kernel
theorem dMD_span_39 : decode cMD_span 39 = .ok (.invokevirtual 102, 3) := by decide +kernel
theorem dMD_span_42 : decode cMD_span 42 = .ok (.imul, 1) := by decide +kernel
theorem dMD_span_43 : decode cMD_span 43 = .ok (.iadd, 1) := by decide +kernel
theorem dMD_span_44 : decode cMD_span 44 = .ok (.goto 4, 3) := by decide +kernel
theorem dMD_span_47 : decode cMD_span 47 = .ok (.iconst (-1), 1) := by decide +kernel
theorem dMD_span_48 : decode cMD_span 48 = .ok (.ireturn, 1) := by decide +kernel
theorem dMD_stronger_0 : decode cMD_stronger 0 = .ok (.iload_n 1, 1) := by decide +kernel
theorem dMD_stronger_1 : decode cMD_stronger 1 = .ok (.ifCond .lt 7, 3) := by decide +kernel
theorem dMD_stronger_4 : decode cMD_stronger 4 = .ok (.iload_n 2, 1) := by decide +kernel
theorem dMD_stronger_5 : decode cMD_stronger 5 = .ok (.ifCond .ge 13, 3) := by decide +kernel
theorem dMD_stronger_8 : decode cMD_stronger 8 = .ok (.iload_n 1, 1) := by decide +kernel
theorem dMD_stronger_9 : decode cMD_stronger 9 = .ok (.ifCond .ge 7, 3) := by decide +kernel
theorem dMD_stronger_12 : decode cMD_stronger 12 = .ok (.iload_n 2, 1) := by decide +kernel
theorem dMD_stronger_13 : decode cMD_stronger 13 = .ok (.goto 4, 3) := by decide +kernel
theorem dMD_stronger_16 : decode cMD_stronger 16 = .ok (.iload_n 1, 1) := by decide +kernel
theorem dMD_stronger_17 : decode cMD_stronger 17 = .ok (.ireturn, 1) := by decide +kernel
theorem dMD_stronger_18 : decode cMD_stronger 18 = .ok (.aload_n 0, 1) := by decide +kernel
theorem dMD_stronger_19 : decode cMD_stronger 19 = .ok (.getfield 47, 3) := by decide +kernel
theorem dMD_stronger_22 : decode cMD_stronger 22 = .ok (.iload_n 1, 1) := by decide +kernel
theorem dMD_stronger_23 : decode cMD_stronger 23 = .ok (.iaload, 1) := by decide +kernel
end
section
theorem dMD_stronger_24 : decode cMD_stronger 24 = .ok (.iconst 4, 1) := by decide +kernel
theorem dMD_stronger_25 : decode cMD_stronger 25 = .ok (.if_icmp .eq 13, 3) := by decide +kernel
theorem dMD_stronger_28 : decode cMD_stronger 28 = .ok (.aload_n 0, 1) := by decide +kernel
theorem dMD_stronger_29 : decode cMD_stronger 29 = .ok (.getfield 47, 3) := by decide +kernel
theorem dMD_stronger_32 : decode cMD_stronger 32 = .ok (.iload_n 2, 1) := by decide +kernel
theorem dMD_stronger_33 : decode cMD_stronger 33 = .ok (.iaload, 1) := by decide +kernel
theorem dMD_stronger_34 : decode cMD_stronger 34 = .ok (.iconst 4, 1) := by decide +kernel
theorem dMD_stronger_35 : decode cMD_stronger 35 = .ok (.if_icmp .ne 19, 3) := by decide +kernel
theorem dMD_stronger_38 : decode cMD_stronger 38 = .ok (.aload_n 0, 1) := by decide +kernel
theorem dMD_stronger_39 : decode cMD_stronger 39 = .ok (.getfield 47, 3) := by decide +kernel
theorem dMD_stronger_42 : decode cMD_stronger 42 = .ok (.iload_n 1, 1) := by decide +kernel
theorem dMD_stronger_43 : decode cMD_stronger 43 = .ok (.iaload, 1) := by decide +kernel
theorem dMD_stronger_44 : decode cMD_stronger 44 = .ok (.iconst 4, 1) := by decide +kernel
theorem dMD_stronger_45 : decode cMD_stronger 45 = .ok (.if_icmp .ne 7, 3) := by decide +kernel
theorem dMD_stronger_48 : decode cMD_stronger 48 = .ok (.iload_n 1, 1) := by decide +kernel
theorem dMD_stronger_49 : decode cMD_stronger 49 = .ok (.goto 4, 3) := by decide +kernel
theorem dMD_stronger_52 : decode cMD_stronger 52 = .ok (.iload_n 2, 1) := by decide +kernel
theorem dMD_stronger_53 : decode cMD_stronger 53 = .ok (.ireturn, 1) := by decide +kernel
theorem dMD_stronger_54 : decode cMD_stronger 54 = .ok (.aload_n 0, 1) := by decide +kernel
theorem dMD_stronger_55 : decode cMD_stronger 55 = .ok (.getfield 44, 3) := by decide +kernel
theorem dMD_stronger_58 : decode cMD_stronger 58 = .ok (.iload_n 1, 1) := by decide +kernel
theorem dMD_stronger_59 : decode cMD_stronger 59 = .ok (.iaload, 1) := by decide +kernel
theorem dMD_stronger_60 : decode cMD_stronger 60 = .ok (.aload_n 0, 1) := by decide +kernel
theorem dMD_stronger_61 : decode cMD_stronger 61 = .ok (.getfield 44, 3) := by decide +kernel
theorem dMD_stronger_64 : decode cMD_stronger 64 = .ok (.iload_n 2, 1) := by decide +kernel
theorem dMD_stronger_65 : decode cMD_stronger 65 = .ok (.iaload, 1) := by decide +kernel
theorem dMD_stronger_66 : decode cMD_stronger 66 = .ok (.if_icmp .eq 24, 3) := by decide +kernel
theorem dMD_stronger_69 : decode cMD_stronger 69 = .ok (.aload_n 0, 1) := by decide +kernel
theorem dMD_stronger_70 : decode cMD_stronger 70 = .ok (.getfield 44, 3) := by decide +kernel
theorem dMD_stronger_73 : decode cMD_stronger 73 = .ok (.iload_n 1, 1) := by decide +kernel
theorem dMD_stronger_74 : decode cMD_stronger 74 = .ok (.iaload, 1) := by decide +kernel
theorem dMD_stronger_75 : decode cMD_stronger 75 = .ok (.aload_n 0, 1) := by decide +kernel
theorem dMD_stronger_76 : decode cMD_stronger 76 = .ok (.getfield 44, 3) := by decide +kernel
theorem dMD_stronger_79 : decode cMD_stronger 79 = .ok (.iload_n 2, 1) := by decide +kernel
theorem dMD_stronger_80 : decode cMD_stronger 80 = .ok (.iaload, 1) := by decide +kernel
theorem dMD_stronger_81 : decode cMD_stronger 81 = .ok (.if_icmp .le 7, 3) := by decide +kernel
theorem dMD_stronger_84 : decode cMD_stronger 84 = .ok (.iload_n 1, 1) := by decide +kernel
theorem dMD_stronger_85 : decode cMD_stronger 85 = .ok (.goto 4, 3) := by decide +kernel
theorem dMD_stronger_88 : decode cMD_stronger 88 = .ok (.iload_n 2, 1) := by decide +kernel
theorem dMD_stronger_89 : decode cMD_stronger 89 = .ok (.ireturn, 1) := by decide +kernel
theorem dMD_stronger_90 : decode cMD_stronger 90 = .ok (.aload_n 0, 1) := by decide +kernel
theorem dMD_stronger_91 : decode cMD_stronger 91 = .ok (.getfield 47, 3) := by decide +kernel
theorem dMD_stronger_94 : decode cMD_stronger 94 = .ok (.iload_n 2, 1) := by decide +kernel
theorem dMD_stronger_95 : decode cMD_stronger 95 = .ok (.iaload, 1) := by decide +kernel
theorem dMD_stronger_96 : decode cMD_stronger 96 = .ok (.aload_n 0, 1) := by decide +kernel
theorem dMD_stronger_97 : decode cMD_stronger 97 = .ok (.getfield 47, 3) := by decide +kernel
theorem dMD_stronger_100 : decode cMD_stronger 100 = .ok (.iload_n 1, 1) := by decide +kernel
theorem dMD_stronger_101 : decode cMD_stronger 101 = .ok (.iaload, 1) := by decide +kernel
theorem dMD_stronger_102 : decode cMD_stronger 102 = .ok (.if_icmp .le 7, 3) := by decide +kernel
theorem dMD_stronger_105 : decode cMD_stronger 105 = .ok (.iload_n 2, 1) := by decide +kernel
theorem dMD_stronger_106 : decode cMD_stronger 106 = .ok (.goto 4, 3) := by decide +kernel
theorem dMD_stronger_109 : decode cMD_stronger 109 = .ok (.iload_n 1, 1) := by decide +kernel
theorem dMD_stronger_110 : decode cMD_stronger 110 = .ok (.ireturn, 1) := by decide +kernel
theorem dMD_sumOf_0 : decode cMD_sumOf 0 = .ok (.iconst 0, 1) := by decide +kernel
theorem dMD_sumOf_1 : decode cMD_sumOf 1 = .ok (.istore_n 3, 1) := by decide +kernel
theorem dMD_sumOf_2 : decode cMD_sumOf 2 = .ok (.iload_n 1, 1) := by decide +kernel
theorem dMD_sumOf_3 : decode cMD_sumOf 3 = .ok (.istore 4, 2) := by decide +kernel
theorem dMD_sumOf_5 : decode cMD_sumOf 5 = .ok (.iload 4, 2) := by decide +kernel
theorem dMD_sumOf_7 : decode cMD_sumOf 7 = .ok (.iload_n 2, 1) := by decide +kernel
theorem dMD_sumOf_8 : decode cMD_sumOf 8 = .ok (.if_icmp .ge 16, 3) := by decide +kernel
theorem dMD_sumOf_11 : decode cMD_sumOf 11 = .ok (.iload_n 3, 1) := by decide +kernel
theorem dMD_sumOf_12 : decode cMD_sumOf 12 = .ok (.aload_n 0, 1) := by decide +kernel
theorem dMD_sumOf_13 : decode cMD_sumOf 13 = .ok (.iload 4, 2) := by decide +kernel
theorem dMD_sumOf_15 : decode cMD_sumOf 15 = .ok (.iaload, 1) := by decide +kernel
theorem dMD_sumOf_16 : decode cMD_sumOf 16 = .ok (.iadd, 1) := by decide +kernel
theorem dMD_sumOf_17 : decode cMD_sumOf 17 = .ok (.istore_n 3, 1) := by decide +kernel
theorem dMD_sumOf_18 : decode cMD_sumOf 18 = .ok (.iinc 4 1, 3) := by decide +kernel
theorem dMD_sumOf_21 : decode cMD_sumOf 21 = .ok (.goto (-16), 3) := by decide +kernel
theorem dMD_sumOf_24 : decode cMD_sumOf 24 = .ok (.iload_n 3, 1) := by decide +kernel
theorem dMD_sumOf_25 : decode cMD_sumOf 25 = .ok (.ireturn, 1) := by decide +kernel
theorem dMD_takes_0 : decode cMD_takes 0 = .ok (.iload_n 2, 1) := by decide +kernel
theorem dMD_takes_1 : decode cMD_takes 1 = .ok (.aload_n 0, 1) := by decide +kernel
theorem dMD_takes_2 : decode cMD_takes 2 = .ok (.getfield 20, 3) := by decide +kernel
theorem dMD_takes_5 : decode cMD_takes 5 = .ok (.iload_n 1, 1) := by decide +kernel
theorem dMD_takes_6 : decode cMD_takes 6 = .ok (.iaload, 1) := by decide +kernel
theorem dMD_takes_7 : decode cMD_takes 7 = .ok (.if_icmp .lt 50, 3) := by decide +kernel
theorem dMD_takes_10 : decode cMD_takes 10 = .ok (.iload_n 2, 1) := by decide +kernel
theorem dMD_takes_11 : decode cMD_takes 11 = .ok (.aload_n 0, 1) := by decide +kernel
theorem dMD_takes_12 : decode cMD_takes 12 = .ok (.getfield 20, 3) := by decide +kernel
theorem dMD_takes_15 : decode cMD_takes 15 = .ok (.iload_n 1, 1) := by decide +kernel
theorem dMD_takes_16 : decode cMD_takes 16 = .ok (.iaload, 1) := by decide +kernel
theorem dMD_takes_17 : decode cMD_takes 17 = .ok (.aload_n 0, 1) := by decide +kernel
theorem dMD_takes_18 : decode cMD_takes 18 = .ok (.getfield 26, 3) := by decide +kernel
theorem dMD_takes_21 : decode cMD_takes 21 = .ok (.iload_n 1, 1) := by decide +kernel
theorem dMD_takes_22 : decode cMD_takes 22 = .ok (.iaload, 1) := by decide +kernel
theorem dMD_takes_23 : decode cMD_takes 23 = .ok (.iadd, 1) := by decide +kernel
theorem dMD_takes_24 : decode cMD_takes 24 = .ok (.if_icmp .ge 33, 3) := by decide +kernel
theorem dMD_takes_27 : decode cMD_takes 27 = .ok (.iload_n 3, 1) := by decide +kernel
theorem dMD_takes_28 : decode cMD_takes 28 = .ok (.aload_n 0, 1) := by decide +kernel
theorem dMD_takes_29 : decode cMD_takes 29 = .ok (.getfield 23, 3) := by decide +kernel
theorem dMD_takes_32 : decode cMD_takes 32 = .ok (.iload_n 1, 1) := by decide +kernel
theorem dMD_takes_33 : decode cMD_takes 33 = .ok (.iaload, 1) := by decide +kernel
theorem dMD_takes_34 : decode cMD_takes 34 = .ok (.if_icmp .lt 23, 3) := by decide +kernel
theorem dMD_takes_37 : decode cMD_takes 37 = .ok (.iload_n 3, 1) := by decide +kernel
theorem dMD_takes_38 : decode cMD_takes 38 = .ok (.aload_n 0, 1) := by decide +kernel
theorem dMD_takes_39 : decode cMD_takes 39 = .ok (.getfield 23, 3) := by decide +kernel
theorem dMD_takes_42 : decode cMD_takes 42 = .ok (.iload_n 1, 1) := by decide +kernel
theorem dMD_takes_43 : decode cMD_takes 43 = .ok (.iaload, 1) := by decide +kernel
theorem dMD_takes_44 : decode cMD_takes 44 = .ok (.aload_n 0, 1) := by decide +kernel
theorem dMD_takes_45 : decode cMD_takes 45 = .ok (.iload_n 1, 1) := by decide +kernel
theorem dMD_takes_46 : decode cMD_takes 46 = .ok (.invokevirtual 102, 3) := by decide +kernel
theorem dMD_takes_49 : decode cMD_takes 49 = .ok (.iadd, 1) := by decide +kernel
theorem dMD_takes_50 : decode cMD_takes 50 = .ok (.if_icmp .ge 7, 3) := by decide +kernel
theorem dMD_takes_53 : decode cMD_takes 53 = .ok (.iconst 1, 1) := by decide +kernel
theorem dMD_takes_54 : decode cMD_takes 54 = .ok (.goto 4, 3) := by decide +kernel
theorem dMD_takes_57 : decode cMD_takes 57 = .ok (.iconst 0, 1) := by decide +kernel
theorem dMD_takes_58 : decode cMD_takes 58 = .ok (.ireturn, 1) := by decide +kernel
theorem dMD_weigh_0 : decode cMD_weigh 0 = .ok (.iconst 0, 1) := by decide +kernel
theorem dMD_weigh_1 : decode cMD_weigh 1 = .ok (.istore_n 2, 1) := by decide +kernel
theorem dMD_weigh_2 : decode cMD_weigh 2 = .ok (.iload_n 2, 1) := by decide +kernel
theorem dMD_weigh_3 : decode cMD_weigh 3 = .ok (.bipush 12, 2) := by decide +kernel
theorem dMD_weigh_5 : decode cMD_weigh 5 = .ok (.if_icmp .ge 18, 3) := by decide +kernel
theorem dMD_weigh_8 : decode cMD_weigh 8 = .ok (.aload_n 0, 1) := by decide +kernel
theorem dMD_weigh_9 : decode cMD_weigh 9 = .ok (.getfield 69, 3) := by decide +kernel
theorem dMD_weigh_12 : decode cMD_weigh 12 = .ok (.iload_n 2, 1) := by decide +kernel
theorem dMD_weigh_13 : decode cMD_weigh 13 = .ok (.aload_n 1, 1) := by decide +kernel
theorem dMD_weigh_14 : decode cMD_weigh 14 = .ok (.iload_n 2, 1) := by decide +kernel
theorem dMD_weigh_15 : decode cMD_weigh 15 = .ok (.iaload, 1) := by decide +kernel
theorem dMD_weigh_16 : decode cMD_weigh 16 = .ok (.iastore, 1) := by decide +kernel
theorem dMD_weigh_17 : decode cMD_weigh 17 = .ok (.iinc 2 1, 3) := by decide +kernel
theorem dMD_weigh_20 : decode cMD_weigh 20 = .ok (.goto (-18), 3) := by decide +kernel
theorem dMD_weigh_23 : decode cMD_weigh 23 = .ok (.return_, 1) := by decide +kernel
theorem dMD_wide_0 : decode cMD_wide 0 = .ok (.iload_n 1, 1) := by decide +kernel
theorem dMD_wide_1 : decode cMD_wide 1 = .ok (.ifCond .lt 11, 3) := by decide +kernel
theorem dMD_wide_4 : decode cMD_wide 4 = .ok (.iload_n 1, 1) := by decide +kernel
theorem dMD_wide_5 : decode cMD_wide 5 = .ok (.aload_n 0, 1) := by decide +kernel
theorem dMD_wide_6 : decode cMD_wide 6 = .ok (.invokevirtual 113, 3) := by decide +kernel
theorem dMD_wide_9 : decode cMD_wide 9 = .ok (.if_icmp .lt 5, 3) := by decide +kernel
theorem dMD_wide_12 : decode cMD_wide 12 = .ok (.iconst (-1), 1) := by decide +kernel
theorem dMD_wide_13 : decode cMD_wide 13 = .ok (.ireturn, 1) := by decide +kernel
theorem dMD_wide_14 : decode cMD_wide 14 = .ok (.aload_n 0, 1) := by decide +kernel
theorem dMD_wide_15 : decode cMD_wide 15 = .ok (.invokevirtual 149, 3) := by decide +kernel
theorem dMD_wide_18 : decode cMD_wide 18 = .ok (.iload_n 2, 1) := by decide +kernel
theorem dMD_wide_19 : decode cMD_wide 19 = .ok (.ifCond .ne 12, 3) := by decide +kernel
theorem dMD_wide_22 : decode cMD_wide 22 = .ok (.aload_n 0, 1) := by decide +kernel
theorem dMD_wide_23 : decode cMD_wide 23 = .ok (.getfield 53, 3) := by decide +kernel
theorem dMD_wide_26 : decode cMD_wide 26 = .ok (.iload_n 1, 1) := by decide +kernel
theorem dMD_wide_27 : decode cMD_wide 27 = .ok (.iaload, 1) := by decide +kernel
theorem dMD_wide_28 : decode cMD_wide 28 = .ok (.goto 23, 3) := by decide +kernel
theorem dMD_wide_31 : decode cMD_wide 31 = .ok (.iload_n 2, 1) := by decide +kernel
theorem dMD_wide_32 : decode cMD_wide 32 = .ok (.iconst 1, 1) := by decide +kernel
theorem dMD_wide_33 : decode cMD_wide 33 = .ok (.if_icmp .ne 12, 3) := by decide +kernel
theorem dMD_wide_36 : decode cMD_wide 36 = .ok (.aload_n 0, 1) := by decide +kernel
theorem dMD_wide_37 : decode cMD_wide 37 = .ok (.getfield 56, 3) := by decide +kernel
theorem dMD_wide_40 : decode cMD_wide 40 = .ok (.iload_n 1, 1) := by decide +kernel
theorem dMD_wide_41 : decode cMD_wide 41 = .ok (.iaload, 1) := by decide +kernel
theorem dMD_wide_42 : decode cMD_wide 42 = .ok (.goto 9, 3) := by decide +kernel
theorem dMD_wide_45 : decode cMD_wide 45 = .ok (.aload_n 0, 1) := by decide +kernel
theorem dMD_wide_46 : decode cMD_wide 46 = .ok (.getfield 59, 3) := by decide +kernel
theorem dMD_wide_49 : decode cMD_wide 49 = .ok (.iload_n 1, 1) := by decide +kernel
theorem dMD_wide_50 : decode cMD_wide 50 = .ok (.iaload, 1) := by decide +kernel
theorem dMD_wide_51 : decode cMD_wide 51 = .ok (.ireturn, 1) := by decide +kernel
theorem dOS_checkIndex_0 : decode cOS_checkIndex 0 = .ok (.iload_n 0, 1) := by decide +kernel
theorem dOS_checkIndex_1 : decode cOS_checkIndex 1 = .ok (.iload_n 1, 1) := by decide +kernel
theorem dOS_checkIndex_2 : decode cOS_checkIndex 2 = .ok (.aconst_null, 1) := by decide +kernel
theorem dOS_checkIndex_3 : decode cOS_checkIndex 3 = .ok (.invokestatic 105, 3) := by decide +kernel
theorem dOS_checkIndex_6 : decode cOS_checkIndex 6 = .ok (.ireturn, 1) := by decide +kernel
theorem dPR_checkIndex_0 : decode cPR_checkIndex 0 = .ok (.iload_n 0, 1) := by decide +kernel
theorem dPR_checkIndex_1 : decode cPR_checkIndex 1 = .ok (.ifCond .lt 8, 3) := by decide +kernel
theorem dPR_checkIndex_4 : decode cPR_checkIndex 4 = .ok (.iload_n 0, 1) := by decide +kernel
theorem dPR_checkIndex_5 : decode cPR_checkIndex 5 = .ok (.iload_n 1, 1) := by decide +kernel
theorem dPR_checkIndex_6 : decode cPR_checkIndex 6 = .ok (.if_icmp .lt 10, 3) := by decide +kernel
theorem dPR_checkIndex_9 : decode cPR_checkIndex 9 = .ok (.aload_n 2, 1) := by decide +kernel
theorem dPR_checkIndex_10 : decode cPR_checkIndex 10 = .ok (.iload_n 0, 1) := by decide +kernel
theorem dPR_checkIndex_11 : decode cPR_checkIndex 11 = .ok (.iload_n 1, 1) := by decide +kernel
theorem dPR_checkIndex_12 : decode cPR_checkIndex 12 = .ok (.invokestatic 95, 3) := by decide +kernel
theorem dPR_checkIndex_15 : decode cPR_checkIndex 15 = .ok (.athrow, 1) := by decide +kernel
theorem dPR_checkIndex_16 : decode cPR_checkIndex 16 = .ok (.iload_n 0, 1) := by decide +kernel
theorem dPR_checkIndex_17 : decode cPR_checkIndex 17 = .ok (.ireturn, 1) := by decide +kernel
theorem dSC_border_0 : decode cSC_border 0 = .ok (.aload_n 0, 1) := by decide +kernel
theorem dSC_border_1 : decode cSC_border 1 = .ok (.getfield 10, 3) := by decide +kernel
theorem dSC_border_4 : decode cSC_border 4 = .ok (.iload_n 1, 1) := by decide +kernel
theorem dSC_border_5 : decode cSC_border 5 = .ok (.invokevirtual 56, 3) := by decide +kernel
theorem dSC_border_8 : decode cSC_border 8 = .ok (.ifCond .eq 22, 3) := by decide +kernel
theorem dSC_border_11 : decode cSC_border 11 = .ok (.iload_n 2, 1) := by decide +kernel
theorem dSC_border_12 : decode cSC_border 12 = .ok (.iconst 0, 1) := by decide +kernel
theorem dSC_border_13 : decode cSC_border 13 = .ok (.bipush 9, 2) := by decide +kernel
theorem dSC_border_15 : decode cSC_border 15 = .ok (.invokestatic 48, 3) := by decide +kernel
theorem dSC_border_18 : decode cSC_border 18 = .ok (.ifCond .eq 12, 3) := by decide +kernel
theorem dSC_border_21 : decode cSC_border 21 = .ok (.iload_n 3, 1) := by decide +kernel
theorem dSC_border_22 : decode cSC_border 22 = .ok (.iconst 0, 1) := by decide +kernel
theorem dSC_border_23 : decode cSC_border 23 = .ok (.iconst 4, 1) := by decide +kernel
theorem dSC_border_24 : decode cSC_border 24 = .ok (.invokestatic 48, 3) := by decide +kernel
theorem dSC_border_27 : decode cSC_border 27 = .ok (.ifCond .ne 5, 3) := by decide +kernel
theorem dSC_border_30 : decode cSC_border 30 = .ok (.iconst 0, 1) := by decide +kernel
theorem dSC_border_31 : decode cSC_border 31 = .ok (.ireturn, 1) := by decide +kernel
theorem dSC_border_32 : decode cSC_border 32 = .ok (.aload_n 0, 1) := by decide +kernel
theorem dSC_border_33 : decode cSC_border 33 = .ok (.getfield 10, 3) := by decide +kernel
theorem dSC_border_36 : decode cSC_border 36 = .ok (.iload_n 1, 1) := by decide +kernel
theorem dSC_border_37 : decode cSC_border 37 = .ok (.invokevirtual 60, 3) := by decide +kernel
theorem dSC_border_40 : decode cSC_border 40 = .ok (.iload_n 2, 1) := by decide +kernel
theorem dSC_border_41 : decode cSC_border 41 = .ok (.iload_n 3, 1) := by decide +kernel
theorem dSC_border_42 : decode cSC_border 42 = .ok (.invokevirtual 64, 3) := by decide +kernel
theorem dSC_border_45 : decode cSC_border 45 = .ok (.iconst 1, 1) := by decide +kernel
theorem dSC_border_46 : decode cSC_border 46 = .ok (.ireturn, 1) := by decide +kernel
theorem dSC_cell_0 : decode cSC_cell 0 = .ok (.iload_n 1, 1) := by decide +kernel
theorem dSC_cell_1 : decode cSC_cell 1 = .ok (.iconst 1, 1) := by decide +kernel
theorem dSC_cell_2 : decode cSC_cell 2 = .ok (.bipush 6, 2) := by decide +kernel
theorem dSC_cell_4 : decode cSC_cell 4 = .ok (.invokestatic 48, 3) := by decide +kernel
theorem dSC_cell_7 : decode cSC_cell 7 = .ok (.ifCond .eq 17, 3) := by decide +kernel
theorem dSC_cell_10 : decode cSC_cell 10 = .ok (.iload_n 2, 1) := by decide +kernel
theorem dSC_cell_11 : decode cSC_cell 11 = .ok (.iconst 0, 1) := by decide +kernel
theorem dSC_cell_12 : decode cSC_cell 12 = .ok (.bipush 6, 2) := by decide +kernel
theorem dSC_cell_14 : decode cSC_cell 14 = .ok (.invokestatic 48, 3) := by decide +kernel
theorem dSC_cell_17 : decode cSC_cell 17 = .ok (.ifCond .eq 7, 3) := by decide +kernel
theorem dSC_cell_20 : decode cSC_cell 20 = .ok (.iconst 1, 1) := by decide +kernel
theorem dSC_cell_21 : decode cSC_cell 21 = .ok (.goto 4, 3) := by decide +kernel
theorem dSC_cell_24 : decode cSC_cell 24 = .ok (.iconst 0, 1) := by decide +kernel
theorem dSC_cell_25 : decode cSC_cell 25 = .ok (.istore 6, 2) := by decide +kernel
theorem dSC_cell_27 : decode cSC_cell 27 = .ok (.iload 4, 2) := by decide +kernel
theorem dSC_cell_29 : decode cSC_cell 29 = .ok (.iconst 0, 1) := by decide +kernel
theorem dSC_cell_30 : decode cSC_cell 30 = .ok (.sipush 1000, 3) := by decide +kernel
theorem dSC_cell_33 : decode cSC_cell 33 = .ok (.invokestatic 48, 3) := by decide +kernel
theorem dSC_cell_36 : decode cSC_cell 36 = .ok (.ifCond .eq 17, 3) := by decide +kernel
theorem dSC_cell_39 : decode cSC_cell 39 = .ok (.iload_n 3, 1) := by decide +kernel
theorem dSC_cell_40 : decode cSC_cell 40 = .ok (.iconst 0, 1) := by decide +kernel
theorem dSC_cell_41 : decode cSC_cell 41 = .ok (.iload 4, 2) := by decide +kernel
theorem dSC_cell_43 : decode cSC_cell 43 = .ok (.invokestatic 48, 3) := by decide +kernel
theorem dSC_cell_46 : decode cSC_cell 46 = .ok (.ifCond .eq 7, 3) := by decide +kernel
theorem dSC_cell_49 : decode cSC_cell 49 = .ok (.iconst 1, 1) := by decide +kernel
theorem dSC_cell_50 : decode cSC_cell 50 = .ok (.goto 4, 3) := by decide +kernel
theorem dSC_cell_53 : decode cSC_cell 53 = .ok (.iconst 0, 1) := by decide +kernel
theorem dSC_cell_54 : decode cSC_cell 54 = .ok (.istore 7, 2) := by decide +kernel
theorem dSC_cell_56 : decode cSC_cell 56 = .ok (.iload 5, 2) := by decide +kernel
theorem dSC_cell_58 : decode cSC_cell 58 = .ok (.iconst 0, 1) := by decide +kernel
theorem dSC_cell_59 : decode cSC_cell 59 = .ok (.sipush 1000, 3) := by decide +kernel
theorem dSC_cell_62 : decode cSC_cell 62 = .ok (.invokestatic 48, 3) := by decide +kernel
theorem dSC_cell_65 : decode cSC_cell 65 = .ok (.istore 8, 2) := by decide +kernel
theorem dSC_cell_67 : decode cSC_cell 67 = .ok (.iload 6, 2) := by decide +kernel
theorem dSC_cell_69 : decode cSC_cell 69 = .ok (.ifCond .eq 13, 3) := by decide +kernel
theorem dSC_cell_72 : decode cSC_cell 72 = .ok (.iload 7, 2) := by decide +kernel
theorem dSC_cell_74 : decode cSC_cell 74 = .ok (.ifCond .eq 8, 3) := by decide +kernel
theorem dSC_cell_77 : decode cSC_cell 77 = .ok (.iload 8, 2) := by decide +kernel
theorem dSC_cell_79 : decode cSC_cell 79 = .ok (.ifCond .ne 5, 3) := by decide +kernel
theorem dSC_cell_82 : decode cSC_cell 82 = .ok (.iconst (-1), 1) := by decide +kernel
theorem dSC_cell_83 : decode cSC_cell 83 = .ok (.ireturn, 1) := by decide +kernel
theorem dSC_cell_84 : decode cSC_cell 84 = .ok (.aload_n 0, 1) := by decide +kernel
theorem dSC_cell_85 : decode cSC_cell 85 = .ok (.getfield 10, 3) := by decide +kernel
theorem dSC_cell_88 : decode cSC_cell 88 = .ok (.iload_n 1, 1) := by decide +kernel
theorem dSC_cell_89 : decode cSC_cell 89 = .ok (.iload_n 2, 1) := by decide +kernel
theorem dSC_cell_90 : decode cSC_cell 90 = .ok (.iload_n 3, 1) := by decide +kernel
theorem dSC_cell_91 : decode cSC_cell 91 = .ok (.iload 4, 2) := by decide +kernel
theorem dSC_cell_93 : decode cSC_cell 93 = .ok (.iload 5, 2) := by decide +kernel
theorem dSC_cell_95 : decode cSC_cell 95 = .ok (.invokevirtual 52, 3) := by decide +kernel
theorem dSC_cell_98 : decode cSC_cell 98 = .ok (.ireturn, 1) := by decide +kernel
theorem dSC_chosenWidths_0 : decode cSC_chosenWidths 0 = .ok (.iconst 0, 1) := by decide +kernel
theorem dSC_chosenWidths_1 : decode cSC_chosenWidths 1 = .ok (.aload_n 0, 1) := by decide +kernel
theorem dSC_chosenWidths_2 : decode cSC_chosenWidths 2 = .ok (.getfield 30, 3) := by decide +kernel
theorem dSC_chosenWidths_5 : decode cSC_chosenWidths 5 = .ok (.aload_n 0, 1) := by decide +kernel
theorem dSC_chosenWidths_6 : decode cSC_chosenWidths 6 = .ok (.getfield 34, 3) := by decide +kernel
theorem dSC_chosenWidths_9 : decode cSC_chosenWidths 9 = .ok (.aload_n 0, 1) := by decide +kernel
theorem dSC_chosenWidths_10 : decode cSC_chosenWidths 10 = .ok (.getfield 10, 3) := by decide +kernel
theorem dSC_chosenWidths_13 : decode cSC_chosenWidths 13 = .ok (.invokevirtual 76, 3) := by decide +kernel
theorem dSC_chosenWidths_16 : decode cSC_chosenWidths 16 = .ok (.iconst 1, 1) := by decide +kernel
theorem dSC_chosenWidths_17 : decode cSC_chosenWidths 17 = .ok (.iadd, 1) := by decide +kernel
theorem dSC_chosenWidths_18 : decode cSC_chosenWidths 18 = .ok (.imul, 1) := by decide +kernel
theorem dSC_chosenWidths_19 : decode cSC_chosenWidths 19 = .ok (.isub, 1) := by decide +kernel
theorem dSC_chosenWidths_20 : decode cSC_chosenWidths 20 = .ok (.invokestatic 156, 3) := by decide +kernel
theorem dSC_chosenWidths_23 : decode cSC_chosenWidths 23 = .ok (.istore_n 1, 1) := by decide +kernel
theorem dSC_chosenWidths_24 : decode cSC_chosenWidths 24 = .ok (.aload_n 0, 1) := by decide +kernel
theorem dSC_chosenWidths_25 : decode cSC_chosenWidths 25 = .ok (.getfield 37, 3) := by decide +kernel
theorem dSC_chosenWidths_28 : decode cSC_chosenWidths 28 = .ok (.ifCond .eq 22, 3) := by decide +kernel
theorem dSC_chosenWidths_31 : decode cSC_chosenWidths 31 = .ok (.aload_n 0, 1) := by decide +kernel
theorem dSC_chosenWidths_32 : decode cSC_chosenWidths 32 = .ok (.getfield 19, 3) := by decide +kernel
theorem dSC_chosenWidths_35 : decode cSC_chosenWidths 35 = .ok (.aload_n 0, 1) := by decide +kernel
theorem dSC_chosenWidths_36 : decode cSC_chosenWidths 36 = .ok (.getfield 10, 3) := by decide +kernel
theorem dSC_chosenWidths_39 : decode cSC_chosenWidths 39 = .ok (.aload_n 0, 1) := by decide +kernel
theorem dSC_chosenWidths_40 : decode cSC_chosenWidths 40 = .ok (.getfield 34, 3) := by decide +kernel
theorem dSC_chosenWidths_43 : decode cSC_chosenWidths 43 = .ok (.iload_n 1, 1) := by decide +kernel
theorem dSC_chosenWidths_44 : decode cSC_chosenWidths 44 = .ok (.invokevirtual 161, 3) := by decide +kernel
theorem dSC_chosenWidths_47 : decode cSC_chosenWidths 47 = .ok (.goto 33, 3) := by decide +kernel
theorem dSC_chosenWidths_50 : decode cSC_chosenWidths 50 = .ok (.aload_n 0, 1) := by decide +kernel
theorem dSC_chosenWidths_51 : decode cSC_chosenWidths 51 = .ok (.getfield 19, 3) := by decide +kernel
theorem dSC_chosenWidths_54 : decode cSC_chosenWidths 54 = .ok (.aload_n 0, 1) := by decide +kernel
theorem dSC_chosenWidths_55 : decode cSC_chosenWidths 55 = .ok (.getfield 10, 3) := by decide +kernel
theorem dSC_chosenWidths_58 : decode cSC_chosenWidths 58 = .ok (.aload_n 0, 1) := by decide +kernel
theorem dSC_chosenWidths_59 : decode cSC_chosenWidths 59 = .ok (.getfield 34, 3) := by decide +kernel
theorem dSC_chosenWidths_62 : decode cSC_chosenWidths 62 = .ok (.invokevirtual 152, 3) := by decide +kernel
theorem dSC_chosenWidths_65 : decode cSC_chosenWidths 65 = .ok (.aload_n 0, 1) := by decide +kernel
theorem dSC_chosenWidths_66 : decode cSC_chosenWidths 66 = .ok (.getfield 19, 3) := by decide +kernel
theorem dSC_chosenWidths_69 : decode cSC_chosenWidths 69 = .ok (.aload_n 0, 1) := by decide +kernel
theorem dSC_chosenWidths_70 : decode cSC_chosenWidths 70 = .ok (.getfield 10, 3) := by decide +kernel
theorem dSC_chosenWidths_73 : decode cSC_chosenWidths 73 = .ok (.invokevirtual 76, 3) := by decide +kernel
theorem dSC_chosenWidths_76 : decode cSC_chosenWidths 76 = .ok (.iload_n 1, 1) := by decide +kernel
theorem dSC_chosenWidths_77 : decode cSC_chosenWidths 77 = .ok (.invokevirtual 165, 3) := by decide +kernel
theorem dSC_chosenWidths_80 : decode cSC_chosenWidths 80 = .ok (.aload_n 0, 1) := by decide +kernel
theorem dSC_chosenWidths_81 : decode cSC_chosenWidths 81 = .ok (.getfield 19, 3) := by decide +kernel
theorem dSC_chosenWidths_84 : decode cSC_chosenWidths 84 = .ok (.getfield 168, 3) := by decide +kernel
theorem dSC_chosenWidths_87 : decode cSC_chosenWidths 87 = .ok (.areturn, 1) := by decide +kernel
theorem dSC_clear_0 : decode cSC_clear 0 = .ok (.aload_n 0, 1) := by decide +kernel
theorem dSC_clear_1 : decode cSC_clear 1 = .ok (.getfield 10, 3) := by decide +kernel
theorem dSC_clear_4 : decode cSC_clear 4 = .ok (.invokevirtual 70, 3) := by decide +kernel
theorem dSC_clear_7 : decode cSC_clear 7 = .ok (.istore_n 1, 1) := by decide +kernel
theorem dSC_clear_8 : decode cSC_clear 8 = .ok (.aload_n 0, 1) := by decide +kernel
theorem dSC_clear_9 : decode cSC_clear 9 = .ok (.getfield 10, 3) := by decide +kernel
theorem dSC_clear_12 : decode cSC_clear 12 = .ok (.invokevirtual 73, 3) := by decide +kernel
theorem dSC_clear_15 : decode cSC_clear 15 = .ok (.iload_n 1, 1) := by decide +kernel
theorem dSC_clear_16 : decode cSC_clear 16 = .ok (.ireturn, 1) := by decide +kernel
theorem dSC_columns_0 : decode cSC_columns 0 = .ok (.aload_n 0, 1) := by decide +kernel
theorem dSC_columns_1 : decode cSC_columns 1 = .ok (.getfield 10, 3) := by decide +kernel
theorem dSC_columns_4 : decode cSC_columns 4 = .ok (.invokevirtual 76, 3) := by decide +kernel
theorem dSC_columns_7 : decode cSC_columns 7 = .ok (.ireturn, 1) := by decide +kernel
theorem dSC_edge_0 : decode cSC_edge 0 = .ok (.aload_n 0, 1) := by decide +kernel
theorem dSC_edge_1 : decode cSC_edge 1 = .ok (.getfield 10, 3) := by decide +kernel
theorem dSC_edge_4 : decode cSC_edge 4 = .ok (.iload_n 1, 1) := by decide +kernel
theorem dSC_edge_5 : decode cSC_edge 5 = .ok (.iload_n 2, 1) := by decide +kernel
theorem dSC_edge_6 : decode cSC_edge 6 = .ok (.invokevirtual 145, 3) := by decide +kernel
theorem dSC_edge_9 : decode cSC_edge 9 = .ok (.ifCond .ne 5, 3) := by decide +kernel
theorem dSC_edge_12 : decode cSC_edge 12 = .ok (.iconst (-1), 1) := by decide +kernel
theorem dSC_edge_13 : decode cSC_edge 13 = .ok (.ireturn, 1) := by decide +kernel
theorem dSC_edge_14 : decode cSC_edge 14 = .ok (.iload_n 3, 1) := by decide +kernel
theorem dSC_edge_15 : decode cSC_edge 15 = .ok (.ifCond .eq 17, 3) := by decide +kernel
theorem dSC_edge_18 : decode cSC_edge 18 = .ok (.aload_n 0, 1) := by decide +kernel
theorem dSC_edge_19 : decode cSC_edge 19 = .ok (.getfield 10, 3) := by decide +kernel
theorem dSC_edge_22 : decode cSC_edge 22 = .ok (.iload_n 1, 1) := by decide +kernel
theorem dSC_edge_23 : decode cSC_edge 23 = .ok (.iload_n 2, 1) := by decide +kernel
theorem dSC_edge_24 : decode cSC_edge 24 = .ok (.iconst 1, 1) := by decide +kernel
theorem dSC_edge_25 : decode cSC_edge 25 = .ok (.iadd, 1) := by decide +kernel
theorem dSC_edge_26 : decode cSC_edge 26 = .ok (.invokevirtual 82, 3) := by decide +kernel
theorem dSC_edge_29 : decode cSC_edge 29 = .ok (.goto 14, 3) := by decide +kernel
theorem dSC_edge_32 : decode cSC_edge 32 = .ok (.aload_n 0, 1) := by decide +kernel
theorem dSC_edge_33 : decode cSC_edge 33 = .ok (.getfield 10, 3) := by decide +kernel
theorem dSC_edge_36 : decode cSC_edge 36 = .ok (.iload_n 1, 1) := by decide +kernel
theorem dSC_edge_37 : decode cSC_edge 37 = .ok (.iconst 1, 1) := by decide +kernel
theorem dSC_edge_38 : decode cSC_edge 38 = .ok (.iadd, 1) := by decide +kernel
theorem dSC_edge_39 : decode cSC_edge 39 = .ok (.iload_n 2, 1) := by decide +kernel
theorem dSC_edge_40 : decode cSC_edge 40 = .ok (.invokevirtual 82, 3) := by decide +kernel
theorem dSC_edge_43 : decode cSC_edge 43 = .ok (.istore 4, 2) := by decide +kernel
theorem dSC_edge_45 : decode cSC_edge 45 = .ok (.aload_n 0, 1) := by decide +kernel
theorem dSC_edge_46 : decode cSC_edge 46 = .ok (.getfield 10, 3) := by decide +kernel
theorem dSC_edge_49 : decode cSC_edge 49 = .ok (.aload_n 0, 1) := by decide +kernel
theorem dSC_edge_50 : decode cSC_edge 50 = .ok (.getfield 10, 3) := by decide +kernel
theorem dSC_edge_53 : decode cSC_edge 53 = .ok (.iload_n 1, 1) := by decide +kernel
theorem dSC_edge_54 : decode cSC_edge 54 = .ok (.iload_n 2, 1) := by decide +kernel
theorem dSC_edge_55 : decode cSC_edge 55 = .ok (.invokevirtual 82, 3) := by decide +kernel
theorem dSC_edge_58 : decode cSC_edge 58 = .ok (.iload 4, 2) := by decide +kernel
theorem dSC_edge_60 : decode cSC_edge 60 = .ok (.invokevirtual 149, 3) := by decide +kernel
theorem dSC_edge_63 : decode cSC_edge 63 = .ok (.ireturn, 1) := by decide +kernel
theorem dSC_empties_0 : decode cSC_empties 0 = .ok (.aload_n 0, 1) := by decide +kernel
theorem dSC_empties_1 : decode cSC_empties 1 = .ok (.getfield 10, 3) := by decide +kernel
theorem dSC_empties_4 : decode cSC_empties 4 = .ok (.invokevirtual 89, 3) := by decide +kernel
theorem dSC_empties_7 : decode cSC_empties 7 = .ok (.bipush 100, 2) := by decide +kernel
theorem dSC_empties_9 : decode cSC_empties 9 = .ok (.aload_n 0, 1) := by decide +kernel
theorem dSC_empties_10 : decode cSC_empties 10 = .ok (.getfield 10, 3) := by decide +kernel
theorem dSC_empties_13 : decode cSC_empties 13 = .ok (.invokevirtual 92, 3) := by decide +kernel
theorem dSC_empties_16 : decode cSC_empties 16 = .ok (.imul, 1) := by decide +kernel
theorem dSC_empties_17 : decode cSC_empties 17 = .ok (.iadd, 1) := by decide +kernel
theorem dSC_empties_18 : decode cSC_empties 18 = .ok (.ireturn, 1) := by decide +kernel
theorem dSC_group_0 : decode cSC_group 0 = .ok (.aload_n 0, 1) := by decide +kernel
theorem dSC_group_1 : decode cSC_group 1 = .ok (.getfield 10, 3) := by decide +kernel
theorem dSC_group_4 : decode cSC_group 4 = .ok (.invokevirtual 41, 3) := by decide +kernel
theorem dSC_group_7 : decode cSC_group 7 = .ok (.ireturn, 1) := by decide +kernel
theorem dSC_high_0 : decode cSC_high 0 = .ok (.iload_n 1, 1) := by decide +kernel
theorem dSC_high_1 : decode cSC_high 1 = .ok (.iconst 0, 1) := by decide +kernel
theorem dSC_high_2 : decode cSC_high 2 = .ok (.aload_n 0, 1) := by decide +kernel
theorem dSC_high_3 : decode cSC_high 3 = .ok (.getfield 10, 3) := by decide +kernel
theorem dSC_high_6 : decode cSC_high 6 = .ok (.invokevirtual 79, 3) := by decide +kernel
theorem dSC_high_9 : decode cSC_high 9 = .ok (.iconst 1, 1) := by decide +kernel
theorem dSC_high_10 : decode cSC_high 10 = .ok (.isub, 1) := by decide +kernel
theorem dSC_high_11 : decode cSC_high 11 = .ok (.invokestatic 48, 3) := by decide +kernel
theorem dSC_high_14 : decode cSC_high 14 = .ok (.ifCond .ne 5, 3) := by decide +kernel
theorem dSC_high_17 : decode cSC_high 17 = .ok (.iconst (-1), 1) := by decide +kernel
theorem dSC_high_18 : decode cSC_high 18 = .ok (.ireturn, 1) := by decide +kernel
theorem dSC_high_19 : decode cSC_high 19 = .ok (.aload_n 0, 1) := by decide +kernel
theorem dSC_high_20 : decode cSC_high 20 = .ok (.invokevirtual 129, 3) := by decide +kernel
theorem dSC_high_23 : decode cSC_high 23 = .ok (.iload_n 1, 1) := by decide +kernel
theorem dSC_high_24 : decode cSC_high 24 = .ok (.invokevirtual 116, 3) := by decide +kernel
theorem dSC_high_27 : decode cSC_high 27 = .ok (.ireturn, 1) := by decide +kernel
theorem dSC_init_0 : decode cSC_init 0 = .ok (.aload_n 0, 1) := by decide +kernel
theorem dSC_init_1 : decode cSC_init 1 = .ok (.invokespecial 1, 3) := by decide +kernel
theorem dSC_init_4 : decode cSC_init 4 = .ok (.aload_n 0, 1) := by decide +kernel
theorem dSC_init_5 : decode cSC_init 5 = .ok (.new 7, 3) := by decide +kernel
theorem dSC_init_8 : decode cSC_init 8 = .ok (.dup, 1) := by decide +kernel
theorem dSC_init_9 : decode cSC_init 9 = .ok (.invokespecial 9, 3) := by decide +kernel
theorem dSC_init_12 : decode cSC_init 12 = .ok (.putfield 10, 3) := by decide +kernel
theorem dSC_init_15 : decode cSC_init 15 = .ok (.aload_n 0, 1) := by decide +kernel
theorem dSC_init_16 : decode cSC_init 16 = .ok (.new 16, 3) := by decide +kernel
theorem dSC_init_19 : decode cSC_init 19 = .ok (.dup, 1) := by decide +kernel
theorem dSC_init_20 : decode cSC_init 20 = .ok (.invokespecial 18, 3) := by decide +kernel
theorem dSC_init_23 : decode cSC_init 23 = .ok (.putfield 19, 3) := by decide +kernel
theorem dSC_init_26 : decode cSC_init 26 = .ok (.aload_n 0, 1) := by decide +kernel
theorem dSC_init_27 : decode cSC_init 27 = .ok (.new 23, 3) := by decide +kernel
theorem dSC_init_30 : decode cSC_init 30 = .ok (.dup, 1) := by decide +kernel
theorem dSC_init_31 : decode cSC_init 31 = .ok (.invokespecial 25, 3) := by decide +kernel
theorem dSC_init_34 : decode cSC_init 34 = .ok (.putfield 26, 3) := by decide +kernel
theorem dSC_init_37 : decode cSC_init 37 = .ok (.aload_n 0, 1) := by decide +kernel
theorem dSC_init_38 : decode cSC_init 38 = .ok (.iconst 0, 1) := by decide +kernel
theorem dSC_init_39 : decode cSC_init 39 = .ok (.putfield 30, 3) := by decide +kernel
theorem dSC_init_42 : decode cSC_init 42 = .ok (.aload_n 0, 1) := by decide +kernel
theorem dSC_init_43 : decode cSC_init 43 = .ok (.iconst 0, 1) := by decide +kernel
theorem dSC_init_44 : decode cSC_init 44 = .ok (.putfield 34, 3) := by decide +kernel
theorem dSC_init_47 : decode cSC_init 47 = .ok (.aload_n 0, 1) := by decide +kernel
theorem dSC_init_48 : decode cSC_init 48 = .ok (.iconst 0, 1) := by decide +kernel
theorem dSC_init_49 : decode cSC_init 49 = .ok (.putfield 37, 3) := by decide +kernel
theorem dSC_init_52 : decode cSC_init 52 = .ok (.return_, 1) := by decide +kernel
theorem dSC_layout_0 : decode cSC_layout 0 = .ok (.iload_n 1, 1) := by decide +kernel
theorem dSC_layout_1 : decode cSC_layout 1 = .ok (.iconst 0, 1) := by decide +kernel
theorem dSC_layout_2 : decode cSC_layout 2 = .ok (.sipush 10000, 3) := by decide +kernel
theorem dSC_layout_5 : decode cSC_layout 5 = .ok (.invokestatic 48, 3) := by decide +kernel
theorem dSC_layout_8 : decode cSC_layout 8 = .ok (.ifCond .eq 13, 3) := by decide +kernel
theorem dSC_layout_11 : decode cSC_layout 11 = .ok (.iload_n 2, 1) := by decide +kernel
theorem dSC_layout_12 : decode cSC_layout 12 = .ok (.iconst 0, 1) := by decide +kernel
theorem dSC_layout_13 : decode cSC_layout 13 = .ok (.bipush 20, 2) := by decide +kernel
theorem dSC_layout_15 : decode cSC_layout 15 = .ok (.invokestatic 48, 3) := by decide +kernel
theorem dSC_layout_18 : decode cSC_layout 18 = .ok (.ifCond .ne 5, 3) := by decide +kernel
theorem dSC_layout_21 : decode cSC_layout 21 = .ok (.iconst 0, 1) := by decide +kernel
theorem dSC_layout_22 : decode cSC_layout 22 = .ok (.ireturn, 1) := by decide +kernel
theorem dSC_layout_23 : decode cSC_layout 23 = .ok (.aload_n 0, 1) := by decide +kernel
theorem dSC_layout_24 : decode cSC_layout 24 = .ok (.iload_n 1, 1) := by decide +kernel
theorem dSC_layout_25 : decode cSC_layout 25 = .ok (.putfield 30, 3) := by decide +kernel
theorem dSC_layout_28 : decode cSC_layout 28 = .ok (.aload_n 0, 1) := by decide +kernel
theorem dSC_layout_29 : decode cSC_layout 29 = .ok (.iload_n 2, 1) := by decide +kernel
theorem dSC_layout_30 : decode cSC_layout 30 = .ok (.putfield 34, 3) := by decide +kernel
theorem dSC_layout_33 : decode cSC_layout 33 = .ok (.aload_n 0, 1) := by decide +kernel
theorem dSC_layout_34 : decode cSC_layout 34 = .ok (.iload_n 3, 1) := by decide +kernel
theorem dSC_layout_35 : decode cSC_layout 35 = .ok (.putfield 37, 3) := by decide +kernel
theorem dSC_layout_38 : decode cSC_layout 38 = .ok (.iconst 1, 1) := by decide +kernel
theorem dSC_layout_39 : decode cSC_layout 39 = .ok (.ireturn, 1) := by decide +kernel
theorem dSC_measuredHeights_0 : decode cSC_measuredHeights 0 = .ok (.aload_n 0, 1) := by decide +kernel
theorem dSC_measuredHeights_1 : decode cSC_measuredHeights 1 = .ok (.getfield 26, 3) := by decide +kernel
theorem dSC_measuredHeights_4 : decode cSC_measuredHeights 4 = .ok (.aload_n 0, 1) := by decide +kernel
theorem dSC_measuredHeights_5 : decode cSC_measuredHeights 5 = .ok (.getfield 10, 3) := by decide +kernel
theorem dSC_measuredHeights_8 : decode cSC_measuredHeights 8 = .ok (.aload_n 0, 1) := by decide +kernel
theorem dSC_measuredHeights_9 : decode cSC_measuredHeights 9 = .ok (.getfield 34, 3) := by decide +kernel
theorem dSC_measuredHeights_12 : decode cSC_measuredHeights 12 = .ok (.invokevirtual 171, 3) := by decide +kernel
theorem dSC_measuredHeights_15 : decode cSC_measuredHeights 15 = .ok (.aload_n 0, 1) := by decide +kernel
theorem dSC_measuredHeights_16 : decode cSC_measuredHeights 16 = .ok (.getfield 26, 3) := by decide +kernel
theorem dSC_measuredHeights_19 : decode cSC_measuredHeights 19 = .ok (.getfield 172, 3) := by decide +kernel
theorem dSC_measuredHeights_22 : decode cSC_measuredHeights 22 = .ok (.areturn, 1) := by decide +kernel
theorem dSC_measuredWidths_0 : decode cSC_measuredWidths 0 = .ok (.aload_n 0, 1) := by decide +kernel
end
section
theorem dSC_measuredWidths_1 : decode cSC_measuredWidths 1 = .ok (.getfield 19, 3) := by decide +kernel
theorem dSC_measuredWidths_4 : decode cSC_measuredWidths 4 = .ok (.aload_n 0, 1) := by decide +kernel
theorem dSC_measuredWidths_5 : decode cSC_measuredWidths 5 = .ok (.getfield 10, 3) := by decide +kernel
theorem dSC_measuredWidths_8 : decode cSC_measuredWidths 8 = .ok (.aload_n 0, 1) := by decide +kernel
theorem dSC_measuredWidths_9 : decode cSC_measuredWidths 9 = .ok (.getfield 34, 3) := by decide +kernel
theorem dSC_measuredWidths_12 : decode cSC_measuredWidths 12 = .ok (.invokevirtual 152, 3) := by decide +kernel
theorem dSC_measuredWidths_15 : decode cSC_measuredWidths 15 = .ok (.aload_n 0, 1) := by decide +kernel
theorem dSC_measuredWidths_16 : decode cSC_measuredWidths 16 = .ok (.getfield 19, 3) := by decide +kernel
theorem dSC_measuredWidths_19 : decode cSC_measuredWidths 19 = .ok (.areturn, 1) := by decide +kernel
theorem dSC_overlaps_0 : decode cSC_overlaps 0 = .ok (.aload_n 0, 1) := by decide +kernel
theorem dSC_overlaps_1 : decode cSC_overlaps 1 = .ok (.getfield 10, 3) := by decide +kernel
theorem dSC_overlaps_4 : decode cSC_overlaps 4 = .ok (.invokevirtual 86, 3) := by decide +kernel
theorem dSC_overlaps_7 : decode cSC_overlaps 7 = .ok (.ireturn, 1) := by decide +kernel
theorem dSC_place_0 : decode cSC_place 0 = .ok (.aload_n 0, 1) := by decide +kernel
theorem dSC_place_1 : decode cSC_place 1 = .ok (.getfield 10, 3) := by decide +kernel
theorem dSC_place_4 : decode cSC_place 4 = .ok (.iload_n 1, 1) := by decide +kernel
theorem dSC_place_5 : decode cSC_place 5 = .ok (.invokevirtual 56, 3) := by decide +kernel
theorem dSC_place_8 : decode cSC_place 8 = .ok (.ifCond .ne 5, 3) := by decide +kernel
theorem dSC_place_11 : decode cSC_place 11 = .ok (.iconst (-1), 1) := by decide +kernel
theorem dSC_place_12 : decode cSC_place 12 = .ok (.ireturn, 1) := by decide +kernel
theorem dSC_place_13 : decode cSC_place 13 = .ok (.aload_n 0, 1) := by decide +kernel
theorem dSC_place_14 : decode cSC_place 14 = .ok (.getfield 10, 3) := by decide +kernel
theorem dSC_place_17 : decode cSC_place 17 = .ok (.iload_n 1, 1) := by decide +kernel
theorem dSC_place_18 : decode cSC_place 18 = .ok (.invokevirtual 60, 3) := by decide +kernel
theorem dSC_place_21 : decode cSC_place 21 = .ok (.astore_n 3, 1) := by decide +kernel
theorem dSC_place_22 : decode cSC_place 22 = .ok (.iload_n 2, 1) := by decide +kernel
theorem dSC_place_23 : decode cSC_place 23 = .ok (.tableswitch 101 0 3 #[29, 45, 61, 81], 29) := by decide +kernel
theorem dSC_place_52 : decode cSC_place 52 = .ok (.aload_n 0, 1) := by decide +kernel
theorem dSC_place_53 : decode cSC_place 53 = .ok (.invokevirtual 125, 3) := by decide +kernel
theorem dSC_place_56 : decode cSC_place 56 = .ok (.aload_n 3, 1) := by decide +kernel
theorem dSC_place_57 : decode cSC_place 57 = .ok (.getfield 95, 3) := by decide +kernel
theorem dSC_place_60 : decode cSC_place 60 = .ok (.aload_n 0, 1) := by decide +kernel
theorem dSC_place_61 : decode cSC_place 61 = .ok (.getfield 34, 3) := by decide +kernel
theorem dSC_place_64 : decode cSC_place 64 = .ok (.invokevirtual 132, 3) := by decide +kernel
theorem dSC_place_67 : decode cSC_place 67 = .ok (.ireturn, 1) := by decide +kernel
theorem dSC_place_68 : decode cSC_place 68 = .ok (.aload_n 0, 1) := by decide +kernel
theorem dSC_place_69 : decode cSC_place 69 = .ok (.invokevirtual 129, 3) := by decide +kernel
theorem dSC_place_72 : decode cSC_place 72 = .ok (.aload_n 3, 1) := by decide +kernel
theorem dSC_place_73 : decode cSC_place 73 = .ok (.getfield 98, 3) := by decide +kernel
theorem dSC_place_76 : decode cSC_place 76 = .ok (.aload_n 0, 1) := by decide +kernel
theorem dSC_place_77 : decode cSC_place 77 = .ok (.getfield 34, 3) := by decide +kernel
theorem dSC_place_80 : decode cSC_place 80 = .ok (.invokevirtual 132, 3) := by decide +kernel
theorem dSC_place_83 : decode cSC_place 83 = .ok (.ireturn, 1) := by decide +kernel
theorem dSC_place_84 : decode cSC_place 84 = .ok (.aload_n 0, 1) := by decide +kernel
theorem dSC_place_85 : decode cSC_place 85 = .ok (.invokevirtual 125, 3) := by decide +kernel
theorem dSC_place_88 : decode cSC_place 88 = .ok (.aload_n 3, 1) := by decide +kernel
theorem dSC_place_89 : decode cSC_place 89 = .ok (.getfield 95, 3) := by decide +kernel
theorem dSC_place_92 : decode cSC_place 92 = .ok (.aload_n 3, 1) := by decide +kernel
theorem dSC_place_93 : decode cSC_place 93 = .ok (.invokevirtual 135, 3) := by decide +kernel
theorem dSC_place_96 : decode cSC_place 96 = .ok (.aload_n 0, 1) := by decide +kernel
theorem dSC_place_97 : decode cSC_place 97 = .ok (.getfield 34, 3) := by decide +kernel
theorem dSC_place_100 : decode cSC_place 100 = .ok (.invokevirtual 138, 3) := by decide +kernel
theorem dSC_place_103 : decode cSC_place 103 = .ok (.ireturn, 1) := by decide +kernel
theorem dSC_place_104 : decode cSC_place 104 = .ok (.aload_n 0, 1) := by decide +kernel
theorem dSC_place_105 : decode cSC_place 105 = .ok (.invokevirtual 129, 3) := by decide +kernel
theorem dSC_place_108 : decode cSC_place 108 = .ok (.aload_n 3, 1) := by decide +kernel
theorem dSC_place_109 : decode cSC_place 109 = .ok (.getfield 98, 3) := by decide +kernel
theorem dSC_place_112 : decode cSC_place 112 = .ok (.aload_n 3, 1) := by decide +kernel
theorem dSC_place_113 : decode cSC_place 113 = .ok (.invokevirtual 142, 3) := by decide +kernel
theorem dSC_place_116 : decode cSC_place 116 = .ok (.aload_n 0, 1) := by decide +kernel
theorem dSC_place_117 : decode cSC_place 117 = .ok (.getfield 34, 3) := by decide +kernel
theorem dSC_place_120 : decode cSC_place 120 = .ok (.invokevirtual 138, 3) := by decide +kernel
theorem dSC_place_123 : decode cSC_place 123 = .ok (.ireturn, 1) := by decide +kernel
theorem dSC_place_124 : decode cSC_place 124 = .ok (.iconst (-1), 1) := by decide +kernel
theorem dSC_place_125 : decode cSC_place 125 = .ok (.ireturn, 1) := by decide +kernel
theorem dSC_row_0 : decode cSC_row 0 = .ok (.aload_n 0, 1) := by decide +kernel
theorem dSC_row_1 : decode cSC_row 1 = .ok (.getfield 10, 3) := by decide +kernel
theorem dSC_row_4 : decode cSC_row 4 = .ok (.invokevirtual 45, 3) := by decide +kernel
theorem dSC_row_7 : decode cSC_row 7 = .ok (.ireturn, 1) := by decide +kernel
theorem dSC_rows_0 : decode cSC_rows 0 = .ok (.aload_n 0, 1) := by decide +kernel
theorem dSC_rows_1 : decode cSC_rows 1 = .ok (.getfield 10, 3) := by decide +kernel
theorem dSC_rows_4 : decode cSC_rows 4 = .ok (.invokevirtual 79, 3) := by decide +kernel
theorem dSC_rows_7 : decode cSC_rows 7 = .ok (.ireturn, 1) := by decide +kernel
theorem dSC_size_0 : decode cSC_size 0 = .ok (.aload_n 0, 1) := by decide +kernel
theorem dSC_size_1 : decode cSC_size 1 = .ok (.getfield 10, 3) := by decide +kernel
theorem dSC_size_4 : decode cSC_size 4 = .ok (.invokevirtual 76, 3) := by decide +kernel
theorem dSC_size_7 : decode cSC_size 7 = .ok (.ifCond .eq 13, 3) := by decide +kernel
theorem dSC_size_10 : decode cSC_size 10 = .ok (.aload_n 0, 1) := by decide +kernel
theorem dSC_size_11 : decode cSC_size 11 = .ok (.getfield 10, 3) := by decide +kernel
theorem dSC_size_14 : decode cSC_size 14 = .ok (.invokevirtual 79, 3) := by decide +kernel
theorem dSC_size_17 : decode cSC_size 17 = .ok (.ifCond .ne 5, 3) := by decide +kernel
theorem dSC_size_20 : decode cSC_size 20 = .ok (.iconst 0, 1) := by decide +kernel
theorem dSC_size_21 : decode cSC_size 21 = .ok (.ireturn, 1) := by decide +kernel
theorem dSC_size_22 : decode cSC_size 22 = .ok (.iload_n 1, 1) := by decide +kernel
theorem dSC_size_23 : decode cSC_size 23 = .ok (.ifCond .eq 24, 3) := by decide +kernel
theorem dSC_size_26 : decode cSC_size 26 = .ok (.aload_n 0, 1) := by decide +kernel
theorem dSC_size_27 : decode cSC_size 27 = .ok (.invokevirtual 129, 3) := by decide +kernel
theorem dSC_size_30 : decode cSC_size 30 = .ok (.aload_n 0, 1) := by decide +kernel
theorem dSC_size_31 : decode cSC_size 31 = .ok (.getfield 10, 3) := by decide +kernel
theorem dSC_size_34 : decode cSC_size 34 = .ok (.invokevirtual 79, 3) := by decide +kernel
theorem dSC_size_37 : decode cSC_size 37 = .ok (.aload_n 0, 1) := by decide +kernel
theorem dSC_size_38 : decode cSC_size 38 = .ok (.getfield 34, 3) := by decide +kernel
theorem dSC_size_41 : decode cSC_size 41 = .ok (.invokevirtual 132, 3) := by decide +kernel
theorem dSC_size_44 : decode cSC_size 44 = .ok (.goto 21, 3) := by decide +kernel
theorem dSC_size_47 : decode cSC_size 47 = .ok (.aload_n 0, 1) := by decide +kernel
theorem dSC_size_48 : decode cSC_size 48 = .ok (.invokevirtual 125, 3) := by decide +kernel
theorem dSC_size_51 : decode cSC_size 51 = .ok (.aload_n 0, 1) := by decide +kernel
theorem dSC_size_52 : decode cSC_size 52 = .ok (.getfield 10, 3) := by decide +kernel
theorem dSC_size_55 : decode cSC_size 55 = .ok (.invokevirtual 76, 3) := by decide +kernel
theorem dSC_size_58 : decode cSC_size 58 = .ok (.aload_n 0, 1) := by decide +kernel
theorem dSC_size_59 : decode cSC_size 59 = .ok (.getfield 34, 3) := by decide +kernel
theorem dSC_size_62 : decode cSC_size 62 = .ok (.invokevirtual 132, 3) := by decide +kernel
theorem dSC_size_65 : decode cSC_size 65 = .ok (.ireturn, 1) := by decide +kernel
theorem dSC_slot_0 : decode cSC_slot 0 = .ok (.aload_n 0, 1) := by decide +kernel
theorem dSC_slot_1 : decode cSC_slot 1 = .ok (.getfield 10, 3) := by decide +kernel
theorem dSC_slot_4 : decode cSC_slot 4 = .ok (.iload_n 1, 1) := by decide +kernel
theorem dSC_slot_5 : decode cSC_slot 5 = .ok (.iload_n 2, 1) := by decide +kernel
theorem dSC_slot_6 : decode cSC_slot 6 = .ok (.invokevirtual 82, 3) := by decide +kernel
theorem dSC_slot_9 : decode cSC_slot 9 = .ok (.ireturn, 1) := by decide +kernel
theorem dSC_span_0 : decode cSC_span 0 = .ok (.aload_n 0, 1) := by decide +kernel
theorem dSC_span_1 : decode cSC_span 1 = .ok (.getfield 10, 3) := by decide +kernel
theorem dSC_span_4 : decode cSC_span 4 = .ok (.iload_n 1, 1) := by decide +kernel
theorem dSC_span_5 : decode cSC_span 5 = .ok (.invokevirtual 56, 3) := by decide +kernel
theorem dSC_span_8 : decode cSC_span 8 = .ok (.ifCond .ne 5, 3) := by decide +kernel
theorem dSC_span_11 : decode cSC_span 11 = .ok (.iconst (-1), 1) := by decide +kernel
theorem dSC_span_12 : decode cSC_span 12 = .ok (.ireturn, 1) := by decide +kernel
theorem dSC_span_13 : decode cSC_span 13 = .ok (.aload_n 0, 1) := by decide +kernel
theorem dSC_span_14 : decode cSC_span 14 = .ok (.getfield 10, 3) := by decide +kernel
theorem dSC_span_17 : decode cSC_span 17 = .ok (.iload_n 1, 1) := by decide +kernel
theorem dSC_span_18 : decode cSC_span 18 = .ok (.invokevirtual 60, 3) := by decide +kernel
theorem dSC_span_21 : decode cSC_span 21 = .ok (.astore_n 2, 1) := by decide +kernel
theorem dSC_span_22 : decode cSC_span 22 = .ok (.aload_n 2, 1) := by decide +kernel
theorem dSC_span_23 : decode cSC_span 23 = .ok (.getfield 95, 3) := by decide +kernel
theorem dSC_span_26 : decode cSC_span 26 = .ok (.bipush 100, 2) := by decide +kernel
theorem dSC_span_28 : decode cSC_span 28 = .ok (.aload_n 2, 1) := by decide +kernel
theorem dSC_span_29 : decode cSC_span 29 = .ok (.getfield 98, 3) := by decide +kernel
theorem dSC_span_32 : decode cSC_span 32 = .ok (.imul, 1) := by decide +kernel
theorem dSC_span_33 : decode cSC_span 33 = .ok (.iadd, 1) := by decide +kernel
theorem dSC_span_34 : decode cSC_span 34 = .ok (.sipush 10000, 3) := by decide +kernel
theorem dSC_span_37 : decode cSC_span 37 = .ok (.aload_n 2, 1) := by decide +kernel
theorem dSC_span_38 : decode cSC_span 38 = .ok (.getfield 101, 3) := by decide +kernel
theorem dSC_span_41 : decode cSC_span 41 = .ok (.imul, 1) := by decide +kernel
theorem dSC_span_42 : decode cSC_span 42 = .ok (.iadd, 1) := by decide +kernel
theorem dSC_span_43 : decode cSC_span 43 = .ok (.ldc 104, 2) := by decide +kernel
theorem dSC_span_45 : decode cSC_span 45 = .ok (.aload_n 2, 1) := by decide +kernel
theorem dSC_span_46 : decode cSC_span 46 = .ok (.getfield 105, 3) := by decide +kernel
theorem dSC_span_49 : decode cSC_span 49 = .ok (.imul, 1) := by decide +kernel
theorem dSC_span_50 : decode cSC_span 50 = .ok (.iadd, 1) := by decide +kernel
theorem dSC_span_51 : decode cSC_span 51 = .ok (.ireturn, 1) := by decide +kernel
theorem dSC_wide_0 : decode cSC_wide 0 = .ok (.iload_n 1, 1) := by decide +kernel
theorem dSC_wide_1 : decode cSC_wide 1 = .ok (.iconst 0, 1) := by decide +kernel
theorem dSC_wide_2 : decode cSC_wide 2 = .ok (.aload_n 0, 1) := by decide +kernel
theorem dSC_wide_3 : decode cSC_wide 3 = .ok (.getfield 10, 3) := by decide +kernel
theorem dSC_wide_6 : decode cSC_wide 6 = .ok (.invokevirtual 76, 3) := by decide +kernel
theorem dSC_wide_9 : decode cSC_wide 9 = .ok (.iconst 1, 1) := by decide +kernel
theorem dSC_wide_10 : decode cSC_wide 10 = .ok (.isub, 1) := by decide +kernel
theorem dSC_wide_11 : decode cSC_wide 11 = .ok (.invokestatic 48, 3) := by decide +kernel
theorem dSC_wide_14 : decode cSC_wide 14 = .ok (.ifCond .ne 5, 3) := by decide +kernel
theorem dSC_wide_17 : decode cSC_wide 17 = .ok (.iconst (-1), 1) := by decide +kernel
theorem dSC_wide_18 : decode cSC_wide 18 = .ok (.ireturn, 1) := by decide +kernel
theorem dSC_wide_19 : decode cSC_wide 19 = .ok (.iload_n 2, 1) := by decide +kernel
theorem dSC_wide_20 : decode cSC_wide 20 = .ok (.ifCond .ne 15, 3) := by decide +kernel
theorem dSC_wide_23 : decode cSC_wide 23 = .ok (.aload_n 0, 1) := by decide +kernel
theorem dSC_wide_24 : decode cSC_wide 24 = .ok (.invokevirtual 108, 3) := by decide +kernel
theorem dSC_wide_27 : decode cSC_wide 27 = .ok (.getfield 112, 3) := by decide +kernel
theorem dSC_wide_30 : decode cSC_wide 30 = .ok (.iload_n 1, 1) := by decide +kernel
theorem dSC_wide_31 : decode cSC_wide 31 = .ok (.invokevirtual 116, 3) := by decide +kernel
theorem dSC_wide_34 : decode cSC_wide 34 = .ok (.ireturn, 1) := by decide +kernel
theorem dSC_wide_35 : decode cSC_wide 35 = .ok (.iload_n 2, 1) := by decide +kernel
theorem dSC_wide_36 : decode cSC_wide 36 = .ok (.iconst 1, 1) := by decide +kernel
theorem dSC_wide_37 : decode cSC_wide 37 = .ok (.if_icmp .ne 15, 3) := by decide +kernel
theorem dSC_wide_40 : decode cSC_wide 40 = .ok (.aload_n 0, 1) := by decide +kernel
theorem dSC_wide_41 : decode cSC_wide 41 = .ok (.invokevirtual 108, 3) := by decide +kernel
theorem dSC_wide_44 : decode cSC_wide 44 = .ok (.getfield 122, 3) := by decide +kernel
theorem dSC_wide_47 : decode cSC_wide 47 = .ok (.iload_n 1, 1) := by decide +kernel
theorem dSC_wide_48 : decode cSC_wide 48 = .ok (.invokevirtual 116, 3) := by decide +kernel
theorem dSC_wide_51 : decode cSC_wide 51 = .ok (.ireturn, 1) := by decide +kernel
theorem dSC_wide_52 : decode cSC_wide 52 = .ok (.aload_n 0, 1) := by decide +kernel
theorem dSC_wide_53 : decode cSC_wide 53 = .ok (.invokevirtual 125, 3) := by decide +kernel
theorem dSC_wide_56 : decode cSC_wide 56 = .ok (.iload_n 1, 1) := by decide +kernel
theorem dSC_wide_57 : decode cSC_wide 57 = .ok (.invokevirtual 116, 3) := by decide +kernel
theorem dSC_wide_60 : decode cSC_wide 60 = .ok (.ireturn, 1) := by decide +kernel
theorem dSC_within_0 : decode cSC_within 0 = .ok (.iload_n 1, 1) := by decide +kernel
theorem dSC_within_1 : decode cSC_within 1 = .ok (.iload_n 0, 1) := by decide +kernel
theorem dSC_within_2 : decode cSC_within 2 = .ok (.if_icmp .gt 12, 3) := by decide +kernel
theorem dSC_within_5 : decode cSC_within 5 = .ok (.iload_n 0, 1) := by decide +kernel
theorem dSC_within_6 : decode cSC_within 6 = .ok (.iload_n 2, 1) := by decide +kernel
theorem dSC_within_7 : decode cSC_within 7 = .ok (.if_icmp .gt 7, 3) := by decide +kernel
theorem dSC_within_10 : decode cSC_within 10 = .ok (.iconst 1, 1) := by decide +kernel
theorem dSC_within_11 : decode cSC_within 11 = .ok (.goto 4, 3) := by decide +kernel
theorem dSC_within_14 : decode cSC_within 14 = .ok (.iconst 0, 1) := by decide +kernel
theorem dSC_within_15 : decode cSC_within 15 = .ok (.ireturn, 1) := by decide +kernel
theorem dWI_chooseByMeasures_0 : decode cWI_chooseByMeasures 0 = .ok (.aload_n 0, 1) := by decide +kernel
theorem dWI_chooseByMeasures_1 : decode cWI_chooseByMeasures 1 = .ok (.getfield 12, 3) := by decide +kernel
theorem dWI_chooseByMeasures_4 : decode cWI_chooseByMeasures 4 = .ok (.iconst 0, 1) := by decide +kernel
theorem dWI_chooseByMeasures_5 : decode cWI_chooseByMeasures 5 = .ok (.iload_n 1, 1) := by decide +kernel
theorem dWI_chooseByMeasures_6 : decode cWI_chooseByMeasures 6 = .ok (.invokevirtual 68, 3) := by decide +kernel
theorem dWI_chooseByMeasures_9 : decode cWI_chooseByMeasures 9 = .ok (.istore_n 3, 1) := by decide +kernel
theorem dWI_chooseByMeasures_10 : decode cWI_chooseByMeasures 10 = .ok (.aload_n 0, 1) := by decide +kernel
theorem dWI_chooseByMeasures_11 : decode cWI_chooseByMeasures 11 = .ok (.getfield 18, 3) := by decide +kernel
theorem dWI_chooseByMeasures_14 : decode cWI_chooseByMeasures 14 = .ok (.iconst 0, 1) := by decide +kernel
theorem dWI_chooseByMeasures_15 : decode cWI_chooseByMeasures 15 = .ok (.iload_n 1, 1) := by decide +kernel
theorem dWI_chooseByMeasures_16 : decode cWI_chooseByMeasures 16 = .ok (.invokevirtual 68, 3) := by decide +kernel
theorem dWI_chooseByMeasures_19 : decode cWI_chooseByMeasures 19 = .ok (.istore 4, 2) := by decide +kernel
theorem dWI_chooseByMeasures_21 : decode cWI_chooseByMeasures 21 = .ok (.iload_n 2, 1) := by decide +kernel
theorem dWI_chooseByMeasures_22 : decode cWI_chooseByMeasures 22 = .ok (.iload_n 3, 1) := by decide +kernel
theorem dWI_chooseByMeasures_23 : decode cWI_chooseByMeasures 23 = .ok (.if_icmp .gt 17, 3) := by decide +kernel
theorem dWI_chooseByMeasures_26 : decode cWI_chooseByMeasures 26 = .ok (.aload_n 0, 1) := by decide +kernel
theorem dWI_chooseByMeasures_27 : decode cWI_chooseByMeasures 27 = .ok (.getfield 21, 3) := by decide +kernel
theorem dWI_chooseByMeasures_30 : decode cWI_chooseByMeasures 30 = .ok (.aload_n 0, 1) := by decide +kernel
theorem dWI_chooseByMeasures_31 : decode cWI_chooseByMeasures 31 = .ok (.getfield 12, 3) := by decide +kernel
theorem dWI_chooseByMeasures_34 : decode cWI_chooseByMeasures 34 = .ok (.invokevirtual 72, 3) := by decide +kernel
theorem dWI_chooseByMeasures_37 : decode cWI_chooseByMeasures 37 = .ok (.goto 72, 3) := by decide +kernel
theorem dWI_chooseByMeasures_40 : decode cWI_chooseByMeasures 40 = .ok (.iload_n 2, 1) := by decide +kernel
theorem dWI_chooseByMeasures_41 : decode cWI_chooseByMeasures 41 = .ok (.iload 4, 2) := by decide +kernel
theorem dWI_chooseByMeasures_43 : decode cWI_chooseByMeasures 43 = .ok (.if_icmp .gt 38, 3) := by decide +kernel
theorem dWI_chooseByMeasures_46 : decode cWI_chooseByMeasures 46 = .ok (.aload_n 0, 1) := by decide +kernel
theorem dWI_chooseByMeasures_47 : decode cWI_chooseByMeasures 47 = .ok (.iload_n 1, 1) := by decide +kernel
theorem dWI_chooseByMeasures_48 : decode cWI_chooseByMeasures 48 = .ok (.invokevirtual 76, 3) := by decide +kernel
theorem dWI_chooseByMeasures_51 : decode cWI_chooseByMeasures 51 = .ok (.aload_n 0, 1) := by decide +kernel
theorem dWI_chooseByMeasures_52 : decode cWI_chooseByMeasures 52 = .ok (.getfield 21, 3) := by decide +kernel
theorem dWI_chooseByMeasures_55 : decode cWI_chooseByMeasures 55 = .ok (.aload_n 0, 1) := by decide +kernel
theorem dWI_chooseByMeasures_56 : decode cWI_chooseByMeasures 56 = .ok (.getfield 12, 3) := by decide +kernel
theorem dWI_chooseByMeasures_59 : decode cWI_chooseByMeasures 59 = .ok (.invokevirtual 72, 3) := by decide +kernel
theorem dWI_chooseByMeasures_62 : decode cWI_chooseByMeasures 62 = .ok (.aload_n 0, 1) := by decide +kernel
theorem dWI_chooseByMeasures_63 : decode cWI_chooseByMeasures 63 = .ok (.getfield 21, 3) := by decide +kernel
theorem dWI_chooseByMeasures_66 : decode cWI_chooseByMeasures 66 = .ok (.iload_n 2, 1) := by decide +kernel
theorem dWI_chooseByMeasures_67 : decode cWI_chooseByMeasures 67 = .ok (.iload_n 3, 1) := by decide +kernel
theorem dWI_chooseByMeasures_68 : decode cWI_chooseByMeasures 68 = .ok (.isub, 1) := by decide +kernel
theorem dWI_chooseByMeasures_69 : decode cWI_chooseByMeasures 69 = .ok (.aload_n 0, 1) := by decide +kernel
theorem dWI_chooseByMeasures_70 : decode cWI_chooseByMeasures 70 = .ok (.getfield 24, 3) := by decide +kernel
theorem dWI_chooseByMeasures_73 : decode cWI_chooseByMeasures 73 = .ok (.iconst 0, 1) := by decide +kernel
theorem dWI_chooseByMeasures_74 : decode cWI_chooseByMeasures 74 = .ok (.iload_n 1, 1) := by decide +kernel
theorem dWI_chooseByMeasures_75 : decode cWI_chooseByMeasures 75 = .ok (.invokevirtual 80, 3) := by decide +kernel
theorem dWI_chooseByMeasures_78 : decode cWI_chooseByMeasures 78 = .ok (.goto 31, 3) := by decide +kernel
theorem dWI_chooseByMeasures_81 : decode cWI_chooseByMeasures 81 = .ok (.aload_n 0, 1) := by decide +kernel
theorem dWI_chooseByMeasures_82 : decode cWI_chooseByMeasures 82 = .ok (.getfield 21, 3) := by decide +kernel
theorem dWI_chooseByMeasures_85 : decode cWI_chooseByMeasures 85 = .ok (.aload_n 0, 1) := by decide +kernel
theorem dWI_chooseByMeasures_86 : decode cWI_chooseByMeasures 86 = .ok (.getfield 18, 3) := by decide +kernel
theorem dWI_chooseByMeasures_89 : decode cWI_chooseByMeasures 89 = .ok (.invokevirtual 72, 3) := by decide +kernel
theorem dWI_chooseByMeasures_92 : decode cWI_chooseByMeasures 92 = .ok (.aload_n 0, 1) := by decide +kernel
theorem dWI_chooseByMeasures_93 : decode cWI_chooseByMeasures 93 = .ok (.getfield 21, 3) := by decide +kernel
theorem dWI_chooseByMeasures_96 : decode cWI_chooseByMeasures 96 = .ok (.iload_n 2, 1) := by decide +kernel
theorem dWI_chooseByMeasures_97 : decode cWI_chooseByMeasures 97 = .ok (.iload 4, 2) := by decide +kernel
theorem dWI_chooseByMeasures_99 : decode cWI_chooseByMeasures 99 = .ok (.isub, 1) := by decide +kernel
theorem dWI_chooseByMeasures_100 : decode cWI_chooseByMeasures 100 = .ok (.aload_n 0, 1) := by decide +kernel
theorem dWI_chooseByMeasures_101 : decode cWI_chooseByMeasures 101 = .ok (.getfield 18, 3) := by decide +kernel
theorem dWI_chooseByMeasures_104 : decode cWI_chooseByMeasures 104 = .ok (.iconst 0, 1) := by decide +kernel
theorem dWI_chooseByMeasures_105 : decode cWI_chooseByMeasures 105 = .ok (.iload_n 1, 1) := by decide +kernel
theorem dWI_chooseByMeasures_106 : decode cWI_chooseByMeasures 106 = .ok (.invokevirtual 80, 3) := by decide +kernel
theorem dWI_chooseByMeasures_109 : decode cWI_chooseByMeasures 109 = .ok (.return_, 1) := by decide +kernel
theorem dWI_chooseFixed_0 : decode cWI_chooseFixed 0 = .ok (.aload_n 0, 1) := by decide +kernel
theorem dWI_chooseFixed_1 : decode cWI_chooseFixed 1 = .ok (.getfield 21, 3) := by decide +kernel
theorem dWI_chooseFixed_4 : decode cWI_chooseFixed 4 = .ok (.invokevirtual 27, 3) := by decide +kernel
theorem dWI_chooseFixed_7 : decode cWI_chooseFixed 7 = .ok (.aload_n 0, 1) := by decide +kernel
theorem dWI_chooseFixed_8 : decode cWI_chooseFixed 8 = .ok (.getfield 24, 3) := by decide +kernel
theorem dWI_chooseFixed_11 : decode cWI_chooseFixed 11 = .ok (.invokevirtual 27, 3) := by decide +kernel
theorem dWI_chooseFixed_14 : decode cWI_chooseFixed 14 = .ok (.iconst 0, 1) := by decide +kernel
theorem dWI_chooseFixed_15 : decode cWI_chooseFixed 15 = .ok (.istore 4, 2) := by decide +kernel
theorem dWI_chooseFixed_17 : decode cWI_chooseFixed 17 = .ok (.iconst 0, 1) := by decide +kernel
theorem dWI_chooseFixed_18 : decode cWI_chooseFixed 18 = .ok (.istore 5, 2) := by decide +kernel
theorem dWI_chooseFixed_20 : decode cWI_chooseFixed 20 = .ok (.iload 5, 2) := by decide +kernel
theorem dWI_chooseFixed_22 : decode cWI_chooseFixed 22 = .ok (.aload_n 1, 1) := by decide +kernel
theorem dWI_chooseFixed_23 : decode cWI_chooseFixed 23 = .ok (.invokevirtual 30, 3) := by decide +kernel
theorem dWI_chooseFixed_26 : decode cWI_chooseFixed 26 = .ok (.if_icmp .ge 76, 3) := by decide +kernel
theorem dWI_chooseFixed_29 : decode cWI_chooseFixed 29 = .ok (.aload_n 1, 1) := by decide +kernel
theorem dWI_chooseFixed_30 : decode cWI_chooseFixed 30 = .ok (.iload 5, 2) := by decide +kernel
theorem dWI_chooseFixed_32 : decode cWI_chooseFixed 32 = .ok (.invokevirtual 36, 3) := by decide +kernel
theorem dWI_chooseFixed_35 : decode cWI_chooseFixed 35 = .ok (.astore 6, 2) := by decide +kernel
theorem dWI_chooseFixed_37 : decode cWI_chooseFixed 37 = .ok (.aload 6, 2) := by decide +kernel
theorem dWI_chooseFixed_39 : decode cWI_chooseFixed 39 = .ok (.getfield 92, 3) := by decide +kernel
theorem dWI_chooseFixed_42 : decode cWI_chooseFixed 42 = .ok (.ifCond .ne 54, 3) := by decide +kernel
theorem dWI_chooseFixed_45 : decode cWI_chooseFixed 45 = .ok (.iconst 0, 1) := by decide +kernel
theorem dWI_chooseFixed_46 : decode cWI_chooseFixed 46 = .ok (.aload 6, 2) := by decide +kernel
theorem dWI_chooseFixed_48 : decode cWI_chooseFixed 48 = .ok (.getfield 50, 3) := by decide +kernel
theorem dWI_chooseFixed_51 : decode cWI_chooseFixed 51 = .ok (.iload_n 2, 1) := by decide +kernel
theorem dWI_chooseFixed_52 : decode cWI_chooseFixed 52 = .ok (.aload 6, 2) := by decide +kernel
theorem dWI_chooseFixed_54 : decode cWI_chooseFixed 54 = .ok (.getfield 40, 3) := by decide +kernel
theorem dWI_chooseFixed_57 : decode cWI_chooseFixed 57 = .ok (.iconst 1, 1) := by decide +kernel
theorem dWI_chooseFixed_58 : decode cWI_chooseFixed 58 = .ok (.isub, 1) := by decide +kernel
theorem dWI_chooseFixed_59 : decode cWI_chooseFixed 59 = .ok (.imul, 1) := by decide +kernel
theorem dWI_chooseFixed_60 : decode cWI_chooseFixed 60 = .ok (.isub, 1) := by decide +kernel
theorem dWI_chooseFixed_61 : decode cWI_chooseFixed 61 = .ok (.invokestatic 95, 3) := by decide +kernel
theorem dWI_chooseFixed_64 : decode cWI_chooseFixed 64 = .ok (.istore 7, 2) := by decide +kernel
theorem dWI_chooseFixed_66 : decode cWI_chooseFixed 66 = .ok (.aload_n 0, 1) := by decide +kernel
theorem dWI_chooseFixed_67 : decode cWI_chooseFixed 67 = .ok (.getfield 21, 3) := by decide +kernel
theorem dWI_chooseFixed_70 : decode cWI_chooseFixed 70 = .ok (.iload 7, 2) := by decide +kernel
theorem dWI_chooseFixed_72 : decode cWI_chooseFixed 72 = .ok (.aload_n 0, 1) := by decide +kernel
theorem dWI_chooseFixed_73 : decode cWI_chooseFixed 73 = .ok (.getfield 24, 3) := by decide +kernel
theorem dWI_chooseFixed_76 : decode cWI_chooseFixed 76 = .ok (.aload 6, 2) := by decide +kernel
theorem dWI_chooseFixed_78 : decode cWI_chooseFixed 78 = .ok (.getfield 52, 3) := by decide +kernel
theorem dWI_chooseFixed_81 : decode cWI_chooseFixed 81 = .ok (.aload 6, 2) := by decide +kernel
theorem dWI_chooseFixed_83 : decode cWI_chooseFixed 83 = .ok (.invokevirtual 55, 3) := by decide +kernel
theorem dWI_chooseFixed_86 : decode cWI_chooseFixed 86 = .ok (.invokevirtual 80, 3) := by decide +kernel
theorem dWI_chooseFixed_89 : decode cWI_chooseFixed 89 = .ok (.aload 6, 2) := by decide +kernel
theorem dWI_chooseFixed_91 : decode cWI_chooseFixed 91 = .ok (.invokevirtual 55, 3) := by decide +kernel
theorem dWI_chooseFixed_94 : decode cWI_chooseFixed 94 = .ok (.istore 4, 2) := by decide +kernel
theorem dWI_chooseFixed_96 : decode cWI_chooseFixed 96 = .ok (.iinc 5 1, 3) := by decide +kernel
theorem dWI_chooseFixed_99 : decode cWI_chooseFixed 99 = .ok (.goto (-79), 3) := by decide +kernel
theorem dWI_chooseFixed_102 : decode cWI_chooseFixed 102 = .ok (.iconst 0, 1) := by decide +kernel
theorem dWI_chooseFixed_103 : decode cWI_chooseFixed 103 = .ok (.iload_n 3, 1) := by decide +kernel
theorem dWI_chooseFixed_104 : decode cWI_chooseFixed 104 = .ok (.aload_n 0, 1) := by decide +kernel
theorem dWI_chooseFixed_105 : decode cWI_chooseFixed 105 = .ok (.getfield 21, 3) := by decide +kernel
theorem dWI_chooseFixed_108 : decode cWI_chooseFixed 108 = .ok (.iconst 0, 1) := by decide +kernel
theorem dWI_chooseFixed_109 : decode cWI_chooseFixed 109 = .ok (.iload 4, 2) := by decide +kernel
theorem dWI_chooseFixed_111 : decode cWI_chooseFixed 111 = .ok (.invokevirtual 68, 3) := by decide +kernel
theorem dWI_chooseFixed_114 : decode cWI_chooseFixed 114 = .ok (.isub, 1) := by decide +kernel
theorem dWI_chooseFixed_115 : decode cWI_chooseFixed 115 = .ok (.invokestatic 95, 3) := by decide +kernel
theorem dWI_chooseFixed_118 : decode cWI_chooseFixed 118 = .ok (.istore 5, 2) := by decide +kernel
theorem dWI_chooseFixed_120 : decode cWI_chooseFixed 120 = .ok (.aload_n 0, 1) := by decide +kernel
theorem dWI_chooseFixed_121 : decode cWI_chooseFixed 121 = .ok (.getfield 21, 3) := by decide +kernel
theorem dWI_chooseFixed_124 : decode cWI_chooseFixed 124 = .ok (.iload 5, 2) := by decide +kernel
theorem dWI_chooseFixed_126 : decode cWI_chooseFixed 126 = .ok (.aload_n 0, 1) := by decide +kernel
theorem dWI_chooseFixed_127 : decode cWI_chooseFixed 127 = .ok (.getfield 24, 3) := by decide +kernel
theorem dWI_chooseFixed_130 : decode cWI_chooseFixed 130 = .ok (.iload 4, 2) := by decide +kernel
theorem dWI_chooseFixed_132 : decode cWI_chooseFixed 132 = .ok (.aload_n 1, 1) := by decide +kernel
theorem dWI_chooseFixed_133 : decode cWI_chooseFixed 133 = .ok (.invokevirtual 100, 3) := by decide +kernel
theorem dWI_chooseFixed_136 : decode cWI_chooseFixed 136 = .ok (.invokevirtual 80, 3) := by decide +kernel
theorem dWI_chooseFixed_139 : decode cWI_chooseFixed 139 = .ok (.return_, 1) := by decide +kernel
theorem dWI_fit_0 : decode cWI_fit 0 = .ok (.aload_n 0, 1) := by decide +kernel
theorem dWI_fit_1 : decode cWI_fit 1 = .ok (.getfield 12, 3) := by decide +kernel
theorem dWI_fit_4 : decode cWI_fit 4 = .ok (.aload_n 1, 1) := by decide +kernel
theorem dWI_fit_5 : decode cWI_fit 5 = .ok (.getfield 50, 3) := by decide +kernel
theorem dWI_fit_8 : decode cWI_fit 8 = .ok (.iload_n 2, 1) := by decide +kernel
theorem dWI_fit_9 : decode cWI_fit 9 = .ok (.aload_n 0, 1) := by decide +kernel
theorem dWI_fit_10 : decode cWI_fit 10 = .ok (.getfield 18, 3) := by decide +kernel
theorem dWI_fit_13 : decode cWI_fit 13 = .ok (.aload_n 1, 1) := by decide +kernel
theorem dWI_fit_14 : decode cWI_fit 14 = .ok (.getfield 52, 3) := by decide +kernel
theorem dWI_fit_17 : decode cWI_fit 17 = .ok (.aload_n 1, 1) := by decide +kernel
theorem dWI_fit_18 : decode cWI_fit 18 = .ok (.invokevirtual 55, 3) := by decide +kernel
theorem dWI_fit_21 : decode cWI_fit 21 = .ok (.invokevirtual 58, 3) := by decide +kernel
theorem dWI_fit_24 : decode cWI_fit 24 = .ok (.aload_n 0, 1) := by decide +kernel
theorem dWI_fit_25 : decode cWI_fit 25 = .ok (.getfield 18, 3) := by decide +kernel
theorem dWI_fit_28 : decode cWI_fit 28 = .ok (.aload_n 1, 1) := by decide +kernel
theorem dWI_fit_29 : decode cWI_fit 29 = .ok (.getfield 62, 3) := by decide +kernel
theorem dWI_fit_32 : decode cWI_fit 32 = .ok (.iload_n 2, 1) := by decide +kernel
theorem dWI_fit_33 : decode cWI_fit 33 = .ok (.aload_n 0, 1) := by decide +kernel
theorem dWI_fit_34 : decode cWI_fit 34 = .ok (.getfield 18, 3) := by decide +kernel
theorem dWI_fit_37 : decode cWI_fit 37 = .ok (.aload_n 1, 1) := by decide +kernel
theorem dWI_fit_38 : decode cWI_fit 38 = .ok (.getfield 52, 3) := by decide +kernel
theorem dWI_fit_41 : decode cWI_fit 41 = .ok (.aload_n 1, 1) := by decide +kernel
theorem dWI_fit_42 : decode cWI_fit 42 = .ok (.invokevirtual 55, 3) := by decide +kernel
theorem dWI_fit_45 : decode cWI_fit 45 = .ok (.invokevirtual 58, 3) := by decide +kernel
theorem dWI_fit_48 : decode cWI_fit 48 = .ok (.aload_n 0, 1) := by decide +kernel
theorem dWI_fit_49 : decode cWI_fit 49 = .ok (.getfield 18, 3) := by decide +kernel
theorem dWI_fit_52 : decode cWI_fit 52 = .ok (.aload_n 0, 1) := by decide +kernel
theorem dWI_fit_53 : decode cWI_fit 53 = .ok (.getfield 12, 3) := by decide +kernel
theorem dWI_fit_56 : decode cWI_fit 56 = .ok (.aload_n 1, 1) := by decide +kernel
theorem dWI_fit_57 : decode cWI_fit 57 = .ok (.getfield 52, 3) := by decide +kernel
theorem dWI_fit_60 : decode cWI_fit 60 = .ok (.aload_n 1, 1) := by decide +kernel
theorem dWI_fit_61 : decode cWI_fit 61 = .ok (.invokevirtual 55, 3) := by decide +kernel
theorem dWI_fit_64 : decode cWI_fit 64 = .ok (.invokevirtual 64, 3) := by decide +kernel
theorem dWI_fit_67 : decode cWI_fit 67 = .ok (.return_, 1) := by decide +kernel
theorem dWI_init_0 : decode cWI_init 0 = .ok (.aload_n 0, 1) := by decide +kernel
theorem dWI_init_1 : decode cWI_init 1 = .ok (.invokespecial 3, 3) := by decide +kernel
theorem dWI_init_4 : decode cWI_init 4 = .ok (.aload_n 0, 1) := by decide +kernel
theorem dWI_init_5 : decode cWI_init 5 = .ok (.new 9, 3) := by decide +kernel
theorem dWI_init_8 : decode cWI_init 8 = .ok (.dup, 1) := by decide +kernel
theorem dWI_init_9 : decode cWI_init 9 = .ok (.invokespecial 11, 3) := by decide +kernel
theorem dWI_init_12 : decode cWI_init 12 = .ok (.putfield 12, 3) := by decide +kernel
theorem dWI_init_15 : decode cWI_init 15 = .ok (.aload_n 0, 1) := by decide +kernel
theorem dWI_init_16 : decode cWI_init 16 = .ok (.new 9, 3) := by decide +kernel
theorem dWI_init_19 : decode cWI_init 19 = .ok (.dup, 1) := by decide +kernel
theorem dWI_init_20 : decode cWI_init 20 = .ok (.invokespecial 11, 3) := by decide +kernel
theorem dWI_init_23 : decode cWI_init 23 = .ok (.putfield 18, 3) := by decide +kernel
theorem dWI_init_26 : decode cWI_init 26 = .ok (.aload_n 0, 1) := by decide +kernel
theorem dWI_init_27 : decode cWI_init 27 = .ok (.new 9, 3) := by decide +kernel
theorem dWI_init_30 : decode cWI_init 30 = .ok (.dup, 1) := by decide +kernel
theorem dWI_init_31 : decode cWI_init 31 = .ok (.invokespecial 11, 3) := by decide +kernel
theorem dWI_init_34 : decode cWI_init 34 = .ok (.putfield 21, 3) := by decide +kernel
theorem dWI_init_37 : decode cWI_init 37 = .ok (.aload_n 0, 1) := by decide +kernel
theorem dWI_init_38 : decode cWI_init 38 = .ok (.new 9, 3) := by decide +kernel
theorem dWI_init_41 : decode cWI_init 41 = .ok (.dup, 1) := by decide +kernel
theorem dWI_init_42 : decode cWI_init 42 = .ok (.invokespecial 11, 3) := by decide +kernel
theorem dWI_init_45 : decode cWI_init 45 = .ok (.putfield 24, 3) := by decide +kernel
theorem dWI_init_48 : decode cWI_init 48 = .ok (.return_, 1) := by decide +kernel
theorem dWI_measure_0 : decode cWI_measure 0 = .ok (.aload_n 0, 1) := by decide +kernel
theorem dWI_measure_1 : decode cWI_measure 1 = .ok (.getfield 12, 3) := by decide +kernel
theorem dWI_measure_4 : decode cWI_measure 4 = .ok (.invokevirtual 27, 3) := by decide +kernel
theorem dWI_measure_7 : decode cWI_measure 7 = .ok (.aload_n 0, 1) := by decide +kernel
theorem dWI_measure_8 : decode cWI_measure 8 = .ok (.getfield 18, 3) := by decide +kernel
theorem dWI_measure_11 : decode cWI_measure 11 = .ok (.invokevirtual 27, 3) := by decide +kernel
theorem dWI_measure_14 : decode cWI_measure 14 = .ok (.iconst 1, 1) := by decide +kernel
theorem dWI_measure_15 : decode cWI_measure 15 = .ok (.istore_n 3, 1) := by decide +kernel
theorem dWI_measure_16 : decode cWI_measure 16 = .ok (.iload_n 3, 1) := by decide +kernel
theorem dWI_measure_17 : decode cWI_measure 17 = .ok (.bipush 6, 2) := by decide +kernel
theorem dWI_measure_19 : decode cWI_measure 19 = .ok (.if_icmp .gt 51, 3) := by decide +kernel
theorem dWI_measure_22 : decode cWI_measure 22 = .ok (.iconst 0, 1) := by decide +kernel
theorem dWI_measure_23 : decode cWI_measure 23 = .ok (.istore 4, 2) := by decide +kernel
theorem dWI_measure_25 : decode cWI_measure 25 = .ok (.iload 4, 2) := by decide +kernel
theorem dWI_measure_27 : decode cWI_measure 27 = .ok (.aload_n 1, 1) := by decide +kernel
theorem dWI_measure_28 : decode cWI_measure 28 = .ok (.invokevirtual 30, 3) := by decide +kernel
theorem dWI_measure_31 : decode cWI_measure 31 = .ok (.if_icmp .ge 33, 3) := by decide +kernel
theorem dWI_measure_34 : decode cWI_measure 34 = .ok (.aload_n 1, 1) := by decide +kernel
theorem dWI_measure_35 : decode cWI_measure 35 = .ok (.iload 4, 2) := by decide +kernel
theorem dWI_measure_37 : decode cWI_measure 37 = .ok (.invokevirtual 36, 3) := by decide +kernel
theorem dWI_measure_40 : decode cWI_measure 40 = .ok (.getfield 40, 3) := by decide +kernel
theorem dWI_measure_43 : decode cWI_measure 43 = .ok (.iload_n 3, 1) := by decide +kernel
theorem dWI_measure_44 : decode cWI_measure 44 = .ok (.if_icmp .ne 14, 3) := by decide +kernel
theorem dWI_measure_47 : decode cWI_measure 47 = .ok (.aload_n 0, 1) := by decide +kernel
theorem dWI_measure_48 : decode cWI_measure 48 = .ok (.aload_n 1, 1) := by decide +kernel
theorem dWI_measure_49 : decode cWI_measure 49 = .ok (.iload 4, 2) := by decide +kernel
theorem dWI_measure_51 : decode cWI_measure 51 = .ok (.invokevirtual 36, 3) := by decide +kernel
theorem dWI_measure_54 : decode cWI_measure 54 = .ok (.iload_n 2, 1) := by decide +kernel
theorem dWI_measure_55 : decode cWI_measure 55 = .ok (.invokevirtual 46, 3) := by decide +kernel
theorem dWI_measure_58 : decode cWI_measure 58 = .ok (.iinc 4 1, 3) := by decide +kernel
theorem dWI_measure_61 : decode cWI_measure 61 = .ok (.goto (-36), 3) := by decide +kernel
theorem dWI_measure_64 : decode cWI_measure 64 = .ok (.iinc 3 1, 3) := by decide +kernel
theorem dWI_measure_67 : decode cWI_measure 67 = .ok (.goto (-51), 3) := by decide +kernel
theorem dWI_measure_70 : decode cWI_measure 70 = .ok (.return_, 1) := by decide +kernel
theorem dWI_weighByScope_0 : decode cWI_weighByScope 0 = .ok (.iconst 0, 1) := by decide +kernel
theorem dWI_weighByScope_1 : decode cWI_weighByScope 1 = .ok (.istore_n 2, 1) := by decide +kernel
theorem dWI_weighByScope_2 : decode cWI_weighByScope 2 = .ok (.iload_n 2, 1) := by decide +kernel
theorem dWI_weighByScope_3 : decode cWI_weighByScope 3 = .ok (.iload_n 1, 1) := by decide +kernel
theorem dWI_weighByScope_4 : decode cWI_weighByScope 4 = .ok (.if_icmp .ge 34, 3) := by decide +kernel
theorem dWI_weighByScope_7 : decode cWI_weighByScope 7 = .ok (.aload_n 0, 1) := by decide +kernel
theorem dWI_weighByScope_8 : decode cWI_weighByScope 8 = .ok (.getfield 24, 3) := by decide +kernel
theorem dWI_weighByScope_11 : decode cWI_weighByScope 11 = .ok (.iload_n 2, 1) := by decide +kernel
theorem dWI_weighByScope_12 : decode cWI_weighByScope 12 = .ok (.aload_n 0, 1) := by decide +kernel
theorem dWI_weighByScope_13 : decode cWI_weighByScope 13 = .ok (.getfield 18, 3) := by decide +kernel
theorem dWI_weighByScope_16 : decode cWI_weighByScope 16 = .ok (.iload_n 2, 1) := by decide +kernel
theorem dWI_weighByScope_17 : decode cWI_weighByScope 17 = .ok (.invokevirtual 84, 3) := by decide +kernel
theorem dWI_weighByScope_20 : decode cWI_weighByScope 20 = .ok (.aload_n 0, 1) := by decide +kernel
theorem dWI_weighByScope_21 : decode cWI_weighByScope 21 = .ok (.getfield 12, 3) := by decide +kernel
theorem dWI_weighByScope_24 : decode cWI_weighByScope 24 = .ok (.iload_n 2, 1) := by decide +kernel
theorem dWI_weighByScope_25 : decode cWI_weighByScope 25 = .ok (.invokevirtual 84, 3) := by decide +kernel
theorem dWI_weighByScope_28 : decode cWI_weighByScope 28 = .ok (.isub, 1) := by decide +kernel
theorem dWI_weighByScope_29 : decode cWI_weighByScope 29 = .ok (.invokevirtual 88, 3) := by decide +kernel
theorem dWI_weighByScope_32 : decode cWI_weighByScope 32 = .ok (.iinc 2 1, 3) := by decide +kernel
theorem dWI_weighByScope_35 : decode cWI_weighByScope 35 = .ok (.goto (-33), 3) := by decide +kernel
theorem dWI_weighByScope_38 : decode cWI_weighByScope 38 = .ok (.return_, 1) := by decide +kernel
end
section
/-! ===== my own rows: contracts of readers (zp_) and of writers (zw_), their heads, ends and calls ===== -/
/-- a reader's start -/
def zp_pre (D : va_G) (cl : List vw_C) (wc : va_W) (tc : List (ClassId × FieldType)) (X : State → Prop) (U : State) : Prop := va_P D cl wc U.heap ∧ va_K D cl tc U ∧ X U
/-- a reader: it answers an int, and nothing changes -/
abbrev zp_M (l : Launch) (y : MethodName) (ws : List Cond) (rm : Room) (av : List Value) (D : va_G) (cl : List vw_C) (wc : va_W) (tc : List (ClassId × FieldType)) (X : State → Prop) (post : Int32 → Prop) : Prop :=
  Met l y ws rm (va_Pc av (zp_pre D cl wc tc X)) (vp_Si post) 0 0 (fun _ => False)
/-- a writer's start -/
def zw_pre (D : va_G) (cl : List vw_C) (wc : va_W) (tc : List (ClassId × FieldType)) (X : (Nat → Prop) → State → Prop) (sz : Nat) (U : State) : Prop := U.heap.size = sz ∧ va_P D cl wc U.heap ∧ va_K D cl tc U ∧ va_D (fun _ => True) wc ∧ X (va_A wc sz) U
/-- the world behind a writer -/
def zw_B {S : Type} (D : va_G) (cl : List vw_C) (A : Nat → Prop) (w1 : S → va_W) (t1 : S → List (ClassId × FieldType)) (u : S) (t : State) : Prop := va_P D cl (w1 u) t.heap ∧ va_K D cl (t1 u) t ∧ va_D A (w1 u)
abbrev zw_Mi {S : Type} (l : Launch) (y : MethodName) (ws : List Cond) (rm : Room) (av : List Value) (D : va_G) (cl : List vw_C) (wc : va_W) (tc : List (ClassId × FieldType)) (X : (Nat → Prop) → State → Prop) (post : Int32 → S → Prop) (w1 : S → va_W) (t1 : S → List (ClassId × FieldType)) (mc ms : Nat) : Prop :=
  ∀ sz : Nat, Met l y ws rm (va_Pc av (zw_pre D cl wc tc X sz)) (va_Qi post (zw_B D cl (va_A wc sz) w1 t1) (va_A wc sz)) mc ms (va_A wc sz)
abbrev zw_Mv {S : Type} (l : Launch) (y : MethodName) (ws : List Cond) (rm : Room) (av : List Value) (D : va_G) (cl : List vw_C) (wc : va_W) (tc : List (ClassId × FieldType)) (X : (Nat → Prop) → State → Prop) (post : S → Prop) (w1 : S → va_W) (t1 : S → List (ClassId × FieldType)) (mc ms : Nat) : Prop :=
  ∀ sz : Nat, Met l y ws rm (va_Pc av (zw_pre D cl wc tc X sz)) (va_Qv post (zw_B D cl (va_A wc sz) w1 t1) (va_A wc sz)) mc ms (va_A wc sz)
/-- what every walk stands on -/
def z_Fix (p : Program) (m : MethodId) (meth : Method) (c : Code) (cc : ByteArray) (nL : Nat) (ret : Option FieldType) (s : State) (args : Array Value) (Ts : List Cond) (own : String) : Prop :=
  p.tables.exec = Jvm.exec ∧ c.code = cc ∧ c.maxLocals = nL ∧ meth.sig.returnType = ret ∧ meth.locks = false ∧ s.vm.findClass own = some m.cls ∧ ∀ w ∈ Ts, w.before args s = true
theorem z_fm {α β : Type} {f : α → Option β} : ∀ (l : List α) (w : List β), l.map f = w.map some → l.filterMap f = w := by
  intro l
  induction l with
  | nil =>
    intro w h
    cases w with
    | nil => rfl
    | cons b w => cases h
  | cons a l ih =>
    intro w h
    cases w with
    | nil => cases h
    | cons b w =>
      rw [List.map_cons, List.map_cons, List.cons.injEq] at h
      rw [List.filterMap_cons, h.1, ih w h.2]
section ZHEAD
variable {l : Launch} {y : MethodName} {ws ws' : List Cond} {rm : Room} {av : List Value} {D : va_G} {cl : List vw_C} {wc : va_W} {tc : List (ClassId × FieldType)} {cc : ByteArray} {maxL : Nat} {ret : Option FieldType}
theorem zp_head {X : State → Prop} {post : Int32 → Prop} (hy : plainName y.cls = true) (hw : ws = Cond.code y cc maxL ret :: ws') (hlen : (lg_sl av).length ≤ maxL)
    (body : ∀ (p : Program) (e : Env) (s : State) (m : MethodId) (below : List Frame) (meth : Method) (c : Code) (ls : Array Slot), z_Fix p m meth c cc maxL ret s av.toArray ws y.cls → va_P D cl wc s.heap → va_K D cl tc s → X s → lv_has ls maxL (lv_args 0 av) →
      W p l e rm s m av.toArray below meth c s.heap [] 0 0 (MQ below (vp_Si post) av.toArray s 0 0 (fun _ => False)) (F0 m 0 ls [])) : zp_M l y ws rm av D cl wc tc X post := by
  refine Met.ofW (cc := cc) (maxL := maxL) (ret := ret) hy hw ?_
  intro p e s m args below meth c s₁ B hml hv
  obtain ⟨rfl, hP, hK, hX⟩ := hv
  rw [lg_entry_eq]
  exact body p e s m below meth c _ ⟨B.exec, B.bytes, hml, B.returns, B.notSynchronized, findClass_of_methodNamed B.named, atoms_spec (ws := ws) B.pre⟩ hP hK hX (lv_entry av hlen)
theorem zw_headi {S : Type} {X : (Nat → Prop) → State → Prop} {post : Int32 → S → Prop} {w1 : S → va_W} {t1 : S → List (ClassId × FieldType)} {mc ms : Nat} (hy : plainName y.cls = true) (hw : ws = Cond.code y cc maxL ret :: ws') (hlen : (lg_sl av).length ≤ maxL)
    (body : ∀ (p : Program) (e : Env) (s : State) (m : MethodId) (below : List Frame) (meth : Method) (c : Code) (ls : Array Slot) (A : Nat → Prop), z_Fix p m meth c cc maxL ret s av.toArray ws y.cls → (∀ q : Nat, s.heap.size ≤ q → A q) → va_P D cl wc s.heap → va_K D cl tc s → va_D A wc → va_S A s.heap s.heap [] → X A s → lv_has ls maxL (lv_args 0 av) →
      W p l e rm s m av.toArray below meth c s.heap [] 0 0 (MQ below (va_Qi post (zw_B D cl A w1 t1) A) av.toArray s mc ms A) (F0 m 0 ls [])) : zw_Mi l y ws rm av D cl wc tc X post w1 t1 mc ms := by
  intro sz
  refine Met.ofW (cc := cc) (maxL := maxL) (ret := ret) hy hw ?_
  intro p e s m args below meth c s₁ B hml hv
  obtain ⟨rfl, hsz, hP, hK, hD0, hX⟩ := hv
  subst hsz
  rw [lg_entry_eq]
  exact body p e s m below meth c _ (va_A wc s.heap.size) ⟨B.exec, B.bytes, hml, B.returns, B.notSynchronized, findClass_of_methodNamed B.named, atoms_spec (ws := ws) B.pre⟩ (fun q h => Or.inr h) hP hK hD0.self va_S.rf hX (lv_entry av hlen)
theorem zw_headv {S : Type} {X : (Nat → Prop) → State → Prop} {post : S → Prop} {w1 : S → va_W} {t1 : S → List (ClassId × FieldType)} {mc ms : Nat} (hy : plainName y.cls = true) (hw : ws = Cond.code y cc maxL ret :: ws') (hlen : (lg_sl av).length ≤ maxL)
    (body : ∀ (p : Program) (e : Env) (s : State) (m : MethodId) (below : List Frame) (meth : Method) (c : Code) (ls : Array Slot) (A : Nat → Prop), z_Fix p m meth c cc maxL ret s av.toArray ws y.cls → (meth.name = y.name) → (∀ q : Nat, s.heap.size ≤ q → A q) → va_P D cl wc s.heap → va_K D cl tc s → va_D A wc → va_S A s.heap s.heap [] → X A s → lv_has ls maxL (lv_args 0 av) →
      W p l e rm s m av.toArray below meth c s.heap [] 0 0 (MQ below (va_Qv post (zw_B D cl A w1 t1) A) av.toArray s mc ms A) (F0 m 0 ls [])) : zw_Mv l y ws rm av D cl wc tc X post w1 t1 mc ms := by
  intro sz
  refine Met.ofW (cc := cc) (maxL := maxL) (ret := ret) hy hw ?_
  intro p e s m args below meth c s₁ B hml hv
  obtain ⟨rfl, hsz, hP, hK, hD0, hX⟩ := hv
  subst hsz
  rw [lg_entry_eq]
  exact body p e s m below meth c _ (va_A wc s.heap.size) ⟨B.exec, B.bytes, hml, B.returns, B.notSynchronized, findClass_of_methodNamed B.named, atoms_spec (ws := ws) B.pre⟩ (name_of_methodNamed B.named B.method).1 (fun q h => Or.inr h) hP hK hD0.self va_S.rf hX (lv_entry av hlen)
end ZHEAD
section ZEND
variable {p : Program} {l : Launch} {e : Env} {R : Room} {s : State} {m : MethodId} {args : Array Value} {below : List Frame} {meth : Method} {c : Code} {H : Heap} {locs : List Loc} {cells slots : Nat}
variable {cc : ByteArray} {pc : Nat} {ls : Array Slot} {D : va_G} {cl : List vw_C} {A : Nat → Prop}
/-- a reader's end -/
theorem zp_iret {post : Int32 → Prop} {v : Int32} (hx : p.tables.exec = Jvm.exec) (hb : c.code = cc) (hr : meth.sig.returnType = some .int) (hlocks : meth.locks = false) (hq : post v) (hdg : decode cc pc = .ok (.ireturn, 1)) :
    W p l e R s m args below meth c s.heap [] 0 0 (MQ below (vp_Si post) args s 0 0 (fun _ => False)) (F0 m pc ls [.int v]) :=
  W.iret (free := fun _ => False) hx hb hr (fun t ht _ => ⟨v, rfl, hq, ht⟩) (fun q h => by cases h) hdg hlocks
theorem zp_zret {post : Int32 → Prop} {v : Int32} (hx : p.tables.exec = Jvm.exec) (hb : c.code = cc) (hr : meth.sig.returnType = some .boolean) (hlocks : meth.locks = false) (hn : v = 0 ∨ v = 1) (hq : post v) (hdg : decode cc pc = .ok (.ireturn, 1)) :
    W p l e R s m args below meth c s.heap [] 0 0 (MQ below (vp_Si post) args s 0 0 (fun _ => False)) (F0 m pc ls [.int v]) :=
  W.zret (free := fun _ => False) hx hb hr (by rcases hn with rfl | rfl <;> rfl) (fun t ht _ => ⟨v, rfl, hq, ht⟩) (fun q h => by cases h) hdg hlocks
/-- a writer's end -/
theorem zw_iret {S : Type} {post : Int32 → S → Prop} {w1 : S → va_W} {t1 : S → List (ClassId × FieldType)} {v : Int32} (u : S) (hx : p.tables.exec = Jvm.exec) (hb : c.code = cc) (hr : meth.sig.returnType = some .int) (hlocks : meth.locks = false) (hq : post v u) (hP : va_P D cl (w1 u) H) (hK : va_K D cl (t1 u) s) (hD : va_D A (w1 u)) (hS : va_S A s.heap H locs) (hdg : decode cc pc = .ok (.ireturn, 1)) :
    W p l e R s m args below meth c H locs cells slots (MQ below (va_Qi post (zw_B D cl A w1 t1) A) args s cells slots A) (F0 m pc ls [.int v]) :=
  W.iret (free := A) hx hb hr (fun t ht hW => ⟨⟨v, u, rfl, hq, by rw [ht]; exact hP, va_K.moved hW.alike hK, hD⟩, hS.F ht⟩) hS.2.2 hdg hlocks
theorem zw_zret {S : Type} {post : Int32 → S → Prop} {w1 : S → va_W} {t1 : S → List (ClassId × FieldType)} {v : Int32} (u : S) (hx : p.tables.exec = Jvm.exec) (hb : c.code = cc) (hr : meth.sig.returnType = some .boolean) (hlocks : meth.locks = false) (hn : v = 0 ∨ v = 1) (hq : post v u) (hP : va_P D cl (w1 u) H) (hK : va_K D cl (t1 u) s) (hD : va_D A (w1 u)) (hS : va_S A s.heap H locs) (hdg : decode cc pc = .ok (.ireturn, 1)) :
    W p l e R s m args below meth c H locs cells slots (MQ below (va_Qi post (zw_B D cl A w1 t1) A) args s cells slots A) (F0 m pc ls [.int v]) :=
  W.zret (free := A) hx hb hr (by rcases hn with rfl | rfl <;> rfl) (fun t ht hW => ⟨⟨v, u, rfl, hq, by rw [ht]; exact hP, va_K.moved hW.alike hK, hD⟩, hS.F ht⟩) hS.2.2 hdg hlocks
theorem zw_vret {S : Type} {post : S → Prop} {w1 : S → va_W} {t1 : S → List (ClassId × FieldType)} (u : S) (hx : p.tables.exec = Jvm.exec) (hb : c.code = cc) (hr : meth.sig.returnType = none) (hlocks : meth.locks = false) (hq : post u) (hP : va_P D cl (w1 u) H) (hK : va_K D cl (t1 u) s) (hD : va_D A (w1 u)) (hS : va_S A s.heap H locs) (hdg : decode cc pc = .ok (.return_, 1)) :
    W p l e R s m args below meth c H locs cells slots (MQ below (va_Qv post (zw_B D cl A w1 t1) A) args s cells slots A) (F0 m pc ls []) :=
  W.vret (free := A) hx hb hr (fun t ht hW => ⟨⟨u, rfl, hq, by rw [ht]; exact hP, va_K.moved hW.alike hK, hD⟩, hS.F ht⟩) hS.2.2 hdg hlocks
end ZEND
section ZCALL
variable {p : Program} {l : Launch} {e : Env} {R : Room} {s : State} {m : MethodId} {args : Array Value} {below : List Frame} {meth : Method} {c : Code} {H : Heap} {locs : List Loc} {cells slots : Nat} {Q : State → Prop}
variable {pc : Nat} {ls : Array Slot} {rest st0 : List Value} {a : Array Value} {A : Nat → Prop} {H0 : Heap} {mc ms : Nat} {D : va_G} {cl : List vw_C} {tys tc : List (ClassId × FieldType)} {ws wc wr : va_W} {av : List Value}
def z_blind (X : State → Prop) : Prop := ∀ (a : Array Value) (U : State) (g : JFrame) (mk : MethodId), X U → X (U.calling g mk a)
theorem zp_preS {X : State → Prop} (hK : va_K D cl tys s) (hP : va_P D cl ws H) (isC : List Nat) (hC : isC.filterMap (fun i => ws[i]?) = wc) (isT : List Nat) (hT : isT.filterMap (fun i => tys[i]?) = tc) (hXb : z_blind X) (hX : ∀ U : State, U.heap = H → s.WarmedH U.vm → X U) : PreS s H (va_Pc av (zp_pre D cl wc tc X)) av :=
  ⟨fun a U g mk q => by obtain ⟨q0, qP, qK, qX⟩ := q; exact ⟨q0, qP, va_K.moved (u := U) (U := U.calling g mk a) (Vm.Alike.refl U.vm) qK, hXb a U g mk qX⟩,
   fun U hU hW => ⟨rfl, by rw [hU]; exact hP.sub isC hC, va_K.moved hW.alike (hK.sub isT hT), hX U hU hW⟩⟩
theorem zp_preV {X : State → Prop} {b q0 ci : Nat} {q : vw_C} {fs As : List Value} (hK : va_K D cl tys s) (hP : va_P D cl ws H) (he : ws[q0]? = some (b, .inr (ci, fs))) (hc : cl[ci]? = some q) (isC : List Nat) (hC : isC.filterMap (fun i => ws[i]?) = wc) (isT : List Nat) (hT : isT.filterMap (fun i => tys[i]?) = tc) (hXb : z_blind X) (hX : ∀ U : State, U.heap = H → s.WarmedH U.vm → X U) : PreV s H q.1 b (va_Pc (.ref b :: As) (zp_pre D cl wc tc X)) As :=
  ⟨(zp_preS (av := .ref b :: As) hK hP isC hC isT hT hXb hX).1, va_recv hK hP hc he, (zp_preS (av := .ref b :: As) hK hP isC hC isT hT hXb hX).2⟩
theorem zw_preS {X : (Nat → Prop) → State → Prop} (hK : va_K D cl tys s) (hP : va_P D cl ws H) (hD : va_D A ws) (isC : List Nat) (hnC : va_nd isC = true) (hC : isC.map (fun i => ws[i]?) = wc.map some) (isT : List Nat) (hT : isT.filterMap (fun i => tys[i]?) = tc) (hXb : z_blind (X (va_A wc H.size))) (hX : ∀ U : State, U.heap = H → s.WarmedH U.vm → X (va_A wc H.size) U) : PreS s H (va_Pc av (zw_pre D cl wc tc X H.size)) av :=
  ⟨fun a U g mk q => by obtain ⟨q0, q1, qP, qK, qD, qX⟩ := q; exact ⟨q0, q1, qP, va_K.moved (u := U) (U := U.calling g mk a) (Vm.Alike.refl U.vm) qK, qD, hXb a U g mk qX⟩,
   fun U hU hW => ⟨rfl, by rw [hU], by rw [hU]; exact hP.sub isC (z_fm isC wc hC), va_K.moved hW.alike (hK.sub isT hT), (hD.sub isC hnC hC).weaken (fun _ _ _ _ => trivial), hX U hU hW⟩⟩
theorem zw_preV {X : (Nat → Prop) → State → Prop} {b q0 ci : Nat} {q : vw_C} {fs As : List Value} (hK : va_K D cl tys s) (hP : va_P D cl ws H) (hD : va_D A ws) (he : ws[q0]? = some (b, .inr (ci, fs))) (hc : cl[ci]? = some q) (isC : List Nat) (hnC : va_nd isC = true) (hC : isC.map (fun i => ws[i]?) = wc.map some) (isT : List Nat) (hT : isT.filterMap (fun i => tys[i]?) = tc) (hXb : z_blind (X (va_A wc H.size))) (hX : ∀ U : State, U.heap = H → s.WarmedH U.vm → X (va_A wc H.size) U) : PreV s H q.1 b (va_Pc (.ref b :: As) (zw_pre D cl wc tc X H.size)) As :=
  ⟨(zw_preS (av := .ref b :: As) hK hP hD isC hnC hC isT hT hXb hX).1, va_recv hK hP hc he, (zw_preS (av := .ref b :: As) hK hP hD isC hnC hC isT hT hXb hX).2⟩
theorem zw_calli {S : Type} {post : Int32 → S → Prop} {w1 : S → va_W} {t1 : S → List (ClassId × FieldType)} (hK : va_K D cl tys s) (hP : va_P D cl ws H) (hD : va_D A ws) (hS : va_S A H0 H locs) (hA : ∀ q, H0.size ≤ q → A q) (isC isR : List Nat) (hC : isC.map (fun i => ws[i]?) = wc.map some) (hR : isR.map (fun i => ws[i]?) = wr.map some) (hn : va_nd isR = true) (hdis : ∀ i ∈ isR, i ∉ isC)
    (hr : va_Run p l e R s m args below meth c H locs cells slots mc ms (F0 m pc ls st0) rest (va_Qi post (zw_B D cl (va_A wc H.size) w1 t1) (va_A wc H.size) a) (va_A wc H.size))
    (kk : ∀ (r : Int32) (u : S) (H1 : Heap) (locs1 : List Loc), post r u → va_P D cl (wr ++ w1 u) H1 → va_D A (wr ++ w1 u) → va_K D cl (tys ++ t1 u) s → va_S A H0 H1 locs1 → W p l e R s m args below meth c H1 locs1 (cells + mc) (slots + ms) Q (F0 m (pc + 3) ls (.int r :: rest))) : W p l e R s m args below meth c H locs cells slots Q (F0 m pc ls st0) := by
  have hFc := va_free (wc := wc) hD hS hA isC hC
  refine va_calli hr hS (fun q _ h => hFc q h) hFc (fun r u t H1 locs1 ht hvm hw hB hz1 hk1 hS1 => ?_)
  obtain ⟨hP1, hK1, hD1⟩ := hB
  rw [ht] at hP1
  obtain ⟨hP2, hD2⟩ := va_join (wr := wr) (w1 := w1 u) hP hD isC isR hC hR hn hdis hk1 hFc hP1 hD1
  exact kk r u H1 locs1 hw hP2 hD2 (hK.app (va_K.moved hvm.symm hK1)) hS1
theorem zw_callv {S : Type} {post : S → Prop} {w1 : S → va_W} {t1 : S → List (ClassId × FieldType)} (hK : va_K D cl tys s) (hP : va_P D cl ws H) (hD : va_D A ws) (hS : va_S A H0 H locs) (hA : ∀ q, H0.size ≤ q → A q) (isC isR : List Nat) (hC : isC.map (fun i => ws[i]?) = wc.map some) (hR : isR.map (fun i => ws[i]?) = wr.map some) (hn : va_nd isR = true) (hdis : ∀ i ∈ isR, i ∉ isC)
    (hr : va_Run p l e R s m args below meth c H locs cells slots mc ms (F0 m pc ls st0) rest (va_Qv post (zw_B D cl (va_A wc H.size) w1 t1) (va_A wc H.size) a) (va_A wc H.size))
    (kk : ∀ (u : S) (H1 : Heap) (locs1 : List Loc), post u → va_P D cl (wr ++ w1 u) H1 → va_D A (wr ++ w1 u) → va_K D cl (tys ++ t1 u) s → va_S A H0 H1 locs1 → W p l e R s m args below meth c H1 locs1 (cells + mc) (slots + ms) Q (F0 m (pc + 3) ls rest)) : W p l e R s m args below meth c H locs cells slots Q (F0 m pc ls st0) := by
  have hFc := va_free (wc := wc) hD hS hA isC hC
  refine va_callv hr hS (fun q _ h => hFc q h) hFc (fun u t H1 locs1 ht hvm hw hB hz1 hk1 hS1 => ?_)
  obtain ⟨hP1, hK1, hD1⟩ := hB
  rw [ht] at hP1
  obtain ⟨hP2, hD2⟩ := va_join (wr := wr) (w1 := w1 u) hP hD isC isR hC hR hn hdis hk1 hFc hP1 hD1
  exact kk u H1 locs1 hw hP2 hD2 (hK.app (va_K.moved hvm.symm hK1)) hS1
end ZCALL
section ZLOOP
variable {p : Program} {l : Launch} {e : Env} {R : Room} {s : State} {m : MethodId} {args : Array Value} {below : List Frame} {meth : Method} {c : Code} {cells slots : Nat} {Q : State → Prop} {pc : Nat} {st : List Value}
/-- a counted loop over a heap that stays -/
theorem zl_up {H : Heap} {locs : List Loc} {σ : Type} (n : Nat) (I : Nat → σ → Array Slot → Prop) (hex : ∀ (x : σ) (ls : Array Slot), I n x ls → W p l e R s m args below meth c H locs cells slots Q (F0 m pc ls st))
    (hst : ∀ i, i < n → (∀ (x : σ) (ls : Array Slot), I (i + 1) x ls → W p l e R s m args below meth c H locs cells slots Q (F0 m pc ls st)) → ∀ (x : σ) (ls : Array Slot), I i x ls → W p l e R s m args below meth c H locs cells slots Q (F0 m pc ls st)) :
    ∀ (i : Nat), i ≤ n → ∀ (x : σ) (ls : Array Slot), I i x ls → W p l e R s m args below meth c H locs cells slots Q (F0 m pc ls st) := by
  have h : ∀ k i, i + k = n → ∀ (x : σ) (ls : Array Slot), I i x ls → W p l e R s m args below meth c H locs cells slots Q (F0 m pc ls st) := by
    intro k
    induction k with
    | zero => intro i hi x ls h; have : i = n := by omega
              subst this; exact hex x ls h
    | succ k ih => intro i hi x ls h; exact hst i (by omega) (fun x ls h => ih (i + 1) (by omega) x ls h) x ls h
  intro i hi x ls hI
  exact h (n - i) i (by omega) x ls hI
/-- a counted loop that writes: x is what changes -/
theorem zl_upW {σ : Type} (n : Nat) (I : Nat → σ → Array Slot → Heap → List Loc → Prop) (hex : ∀ (x : σ) (ls : Array Slot) (H : Heap) (locs : List Loc), I n x ls H locs → W p l e R s m args below meth c H locs cells slots Q (F0 m pc ls st))
    (hst : ∀ i, i < n → (∀ (x : σ) (ls : Array Slot) (H : Heap) (locs : List Loc), I (i + 1) x ls H locs → W p l e R s m args below meth c H locs cells slots Q (F0 m pc ls st)) → ∀ (x : σ) (ls : Array Slot) (H : Heap) (locs : List Loc), I i x ls H locs → W p l e R s m args below meth c H locs cells slots Q (F0 m pc ls st)) :
    ∀ (i : Nat), i ≤ n → ∀ (x : σ) (ls : Array Slot) (H : Heap) (locs : List Loc), I i x ls H locs → W p l e R s m args below meth c H locs cells slots Q (F0 m pc ls st) := by
  have h : ∀ k i, i + k = n → ∀ (x : σ) (ls : Array Slot) (H : Heap) (locs : List Loc), I i x ls H locs → W p l e R s m args below meth c H locs cells slots Q (F0 m pc ls st) := by
    intro k
    induction k with
    | zero => intro i hi x ls H locs h; have : i = n := by omega
              subst this; exact hex x ls H locs h
    | succ k ih => intro i hi x ls H locs h; exact hst i (by omega) (fun x ls H locs h => ih (i + 1) (by omega) x ls H locs h) x ls H locs h
  intro i hi x ls H locs hI
  exact h (n - i) i (by omega) x ls H locs hI
end ZLOOP
section ZQ
variable {p : Program} {l : Launch} {e : Env} {R : Room} {s : State} {m : MethodId} {args : Array Value} {below : List Frame} {meth : Method} {c : Code} {H : Heap} {locs : List Loc} {cells slots : Nat} {Q0 : State → Prop} {g : JFrame}
/-- the end gets a name -/
theorem z_q (k : ∀ Q : State → Prop, Q = Q0 → W p l e R s m args below meth c H locs cells slots Q g) : W p l e R s m args below meth c H locs cells slots Q0 g := k Q0 rfl
/-- a place where roads meet -/
theorem z_join {α : Type} {G : Prop} (P : α → Prop) (T : α → Prop) (k : ∀ v, P v → T v) (h : (∀ v, P v → T v) → G) : G := h k
end ZQ
theorem z_true : z_blind (fun _ => True) := fun _ _ _ _ _ => trivial
end
section
theorem in_SC : ∀ w ∈ u_ws RSC TSC 6, w ∈ zT := by
  intro w hw
  obtain ⟨k, hk, rfl⟩ := List.mem_map.mp hw
  have hk := List.mem_range.mp hk
  match k, hk with
  | 0, _ => exact wd_156
  | 1, _ => exact wd_158
  | 2, _ => exact wd_160
  | 3, _ => exact wd_162
  | 4, _ => exact wd_164
  | 5, _ => exact wd_166
  | (j + 6), h => exact absurd h (by omega)
theorem in_GR : ∀ w ∈ u_ws RGR TGR 6, w ∈ zT := by
  intro w hw
  obtain ⟨k, hk, rfl⟩ := List.mem_map.mp hw
  have hk := List.mem_range.mp hk
  match k, hk with
  | 0, _ => exact wd_91
  | 1, _ => exact wd_93
  | 2, _ => exact wd_95
  | 3, _ => exact wd_97
  | 4, _ => exact wd_99
  | 5, _ => exact wd_101
  | (j + 6), h => exact absurd h (by omega)
theorem in_AL : ∀ w ∈ u_ws RAL TAL 3, w ∈ zT := by
  intro w hw
  obtain ⟨k, hk, rfl⟩ := List.mem_map.mp hw
  have hk := List.mem_range.mp hk
  match k, hk with
  | 0, _ => exact wd_78
  | 1, _ => exact wd_80
  | 2, _ => exact wd_82
  | (j + 3), h => exact absurd h (by omega)
theorem in_WI : ∀ w ∈ u_ws RWI TWI 4, w ∈ zT := by
  intro w hw
  obtain ⟨k, hk, rfl⟩ := List.mem_map.mp hw
  have hk := List.mem_range.mp hk
  match k, hk with
  | 0, _ => exact wd_128
  | 1, _ => exact wd_130
  | 2, _ => exact wd_132
  | 3, _ => exact wd_134
  | (j + 4), h => exact absurd h (by omega)
theorem in_LI : ∀ w ∈ u_ws RLI TLI 1, w ∈ zT := by
  intro w hw
  obtain ⟨k, hk, rfl⟩ := List.mem_map.mp hw
  have hk := List.mem_range.mp hk
  match k, hk with
  | 0, _ => exact wd_117
  | (j + 1), h => exact absurd h (by omega)
theorem in_HE : ∀ w ∈ u_ws RHE THE 1, w ∈ zT := by
  intro w hw
  obtain ⟨k, hk, rfl⟩ := List.mem_map.mp hw
  have hk := List.mem_range.mp hk
  match k, hk with
  | 0, _ => exact wd_147
  | (j + 1), h => exact absurd h (by omega)
theorem in_MD : ∀ w ∈ u_ws RMD TMD 26, w ∈ zT := by
  intro w hw
  obtain ⟨k, hk, rfl⟩ := List.mem_map.mp hw
  have hk := List.mem_range.mp hk
  match k, hk with
  | 0, _ => exact wd_610
  | 1, _ => exact wd_612
  | 2, _ => exact wd_614
  | 3, _ => exact wd_616
  | 4, _ => exact wd_618
  | 5, _ => exact wd_620
  | 6, _ => exact wd_622
  | 7, _ => exact wd_624
  | 8, _ => exact wd_626
  | 9, _ => exact wd_628
  | 10, _ => exact wd_630
  | 11, _ => exact wd_632
  | 12, _ => exact wd_634
  | 13, _ => exact wd_636
  | 14, _ => exact wd_638
  | 15, _ => exact wd_640
  | 16, _ => exact wd_642
  | 17, _ => exact wd_644
  | 18, _ => exact wd_646
  | 19, _ => exact wd_648
  | 20, _ => exact wd_650
  | 21, _ => exact wd_652
  | 22, _ => exact wd_654
  | 23, _ => exact wd_656
  | 24, _ => exact wd_658
  | 25, _ => exact wd_660
  | (j + 26), h => exact absurd h (by omega)
theorem in_CE : ∀ w ∈ u_ws RCE TCE 10, w ∈ zT := by
  intro w hw
  obtain ⟨k, hk, rfl⟩ := List.mem_map.mp hw
  have hk := List.mem_range.mp hk
  match k, hk with
  | 0, _ => exact wd_277
  | 1, _ => exact wd_279
  | 2, _ => exact wd_281
  | 3, _ => exact wd_283
  | 4, _ => exact wd_285
  | 5, _ => exact wd_287
  | 6, _ => exact wd_289
  | 7, _ => exact wd_291
  | 8, _ => exact wd_293
  | 9, _ => exact wd_295
  | (j + 10), h => exact absurd h (by omega)
theorem z_gV {own C : String} {idx maxL : Nat} {y : MethodName} {cc : ByteArray} {ret : Option FieldType} (h1 : Cond.methodLink own idx y ∈ zT) (h2 : Cond.instanceMethod y ∈ zT) (h3 : Cond.selects C y y ∈ zT) (h4 : Cond.initialized C ∈ zT) (h5 : Cond.code y cc maxL ret ∈ zT) : GoodIn zT (wsV own idx C y (.code y cc maxL ret :: zT)) := by
  have hg := zT_good (Ts := zT) (fun _ h => h)
  intro w hw
  unfold wsV at hw
  rcases List.mem_append.mp hw with h | h
  · simp only [List.mem_cons, List.not_mem_nil, or_false] at h
    rcases h with rfl | rfl | rfl | rfl
    · exact hg _ h1
    · exact hg _ h2
    · exact hg _ h3
    · exact hg _ h4
  · rcases List.mem_cons.mp h with rfl | h
    · exact hg _ h5
    · exact hg _ h
theorem z_gS {own : String} {idx maxL : Nat} {y : MethodName} {cc : ByteArray} {ret : Option FieldType} (h1 : Cond.methodLink own idx y ∈ zT) (h2 : Cond.static y ∈ zT) (h4 : Cond.initialized y.cls ∈ zT) (h5 : Cond.code y cc maxL ret ∈ zT) : GoodIn zT (va_wsS own idx y (.code y cc maxL ret :: zT)) := by
  have hg := zT_good (Ts := zT) (fun _ h => h)
  intro w hw
  unfold va_wsS at hw
  rcases List.mem_append.mp hw with h | h
  · simp only [List.mem_cons, List.not_mem_nil, or_false] at h
    rcases h with rfl | rfl | rfl
    · exact hg _ h1
    · exact hg _ h2
    · exact hg _ h4
  · rcases List.mem_cons.mp h with rfl | h
    · exact hg _ h5
    · exact hg _ h
theorem z_gI {maxL : Nat} {y : MethodName} {cc : ByteArray} {ret : Option FieldType} (h5 : Cond.code y cc maxL ret ∈ zT) : GoodIn zT (.code y cc maxL ret :: zT) := by
  have hg := zT_good (Ts := zT) (fun _ h => h)
  intro w hw
  rcases List.mem_cons.mp hw with rfl | h
  · exact hg _ h5
  · exact hg _ h
def zN (U : State) : Prop := ∀ q ∈ zNest, va_Nw (.methodLinkNest q.1 q.2.1 q.2.2.1 q.2.2.2) U
theorem zN_warm {s U : State} (hW : s.WarmedH U.vm) (h : zN s) : zN U := fun q hq => va_Nw.warmM hW (h q hq)
theorem zN_blind : z_blind zN := fun _ U _ _ h q hq => va_Nw.same (u := U) rfl rfl (h q hq)
def zX (t : Nat) (A : Nat → Prop) (U : State) : Prop := zN U ∧ va_Z "java/util/ArrayList" "DEFAULTCAPACITY_EMPTY_ELEMENTDATA" "[Ljava/lang/Object;" (.ref t) A U U.heap
theorem zX_blind {t : Nat} {A : Nat → Prop} : z_blind (zX t A) := fun a U g mk h => ⟨zN_blind a U g mk h.1, va_Z.moved (u := U) (U := U.calling g mk a) (Vm.Alike.refl U.vm) h.2⟩
theorem zX_call {t : Nat} {A : Nat → Prop} {s : State} {H : Heap} {locs : List Loc} {wc : va_W} (h : zX t A s) (hS : va_S A s.heap H locs) (hF : ∀ q, va_A wc H.size q → A q) : ∀ U : State, U.heap = H → s.WarmedH U.vm → zX t (va_A wc H.size) U := by
  intro U hU hW
  refine ⟨zN_warm hW h.1, ?_⟩
  have h2 := ((h.2.kept hS.2.1).moved hW.alike).narrow hF
  rw [hU]
  exact h2
theorem zN_call {s : State} {H : Heap} (h : zN s) : ∀ U : State, U.heap = H → s.WarmedH U.vm → zN U := fun _ _ hW => zN_warm hW h
theorem z_within_none {r v : Int32} (h : (r = 1 ∧ (0 ≤ v ∧ v ≤ (-1))) ∨ (r = 0 ∧ ¬ (0 ≤ v ∧ v ≤ (-1)))) : r = 0 := by
  rcases h with ⟨-, h1, h2⟩ | ⟨h, -⟩
  · exact absurd (Int32.le_trans h1 h2) (by decide)
  · exact h
theorem z_wT {r : Int32} {P : Prop} (h : (r = 1 ∧ P) ∨ (r = 0 ∧ ¬ P)) (h0 : ¬ r = 0) : P := by
  rcases h with ⟨-, h⟩ | ⟨h, -⟩
  · exact h
  · exact absurd h h0
theorem z_wF {r : Int32} {P : Prop} (h : (r = 1 ∧ P) ∨ (r = 0 ∧ ¬ P)) (h0 : r = 0) : ¬ P := by
  rcases h with ⟨h, -⟩ | ⟨-, h⟩
  · subst h0; exact absurd h (by decide)
  · exact h
theorem z_ltN {i n : Nat} {N : Int32} (h : i < n) (hn : n < 2 ^ 31) (e : N = nI n) : ¬ N ≤ nI i := by
  rw [e]
  exact nI_ge h hn
end
section
/-! ===== cells in any number, behind the cells that are named ===== -/
def zcs (n : Nat) (ad : Nat → Nat) (F : Nat → List Value) : va_W := (List.range n).map (fun k => (ad k, .inr (7, F k)))
theorem zcs_get {X : va_W} {L n k : Nat} {ad : Nat → Nat} {F : Nat → List Value} (hL : X.length = L) (h : k < n) : (X ++ zcs n ad F)[L + k]? = some (ad k, .inr (7, F k)) := by
  subst hL
  rw [List.getElem?_append_right (by omega), Nat.add_sub_cancel_left]
  simp [zcs, h]
theorem zt_mem {D : va_G} {cl : List vw_C} {ws : va_W} {H : Heap} (h : va_P D cl ws H) {q : Nat × va_E} (hq : q ∈ ws) : va_at D cl q H := by
  obtain ⟨i, hi⟩ := List.getElem?_of_mem hq
  exact h i q hi
theorem zt_of {D : va_G} {cl : List vw_C} {ws : va_W} {H : Heap} (h : ∀ q ∈ ws, va_at D cl q H) : va_P D cl ws H := fun k q hk => h q (List.mem_of_getElem? hk)
theorem zt_sub {D : va_G} {cl : List vw_C} {X T wc : va_W} {H : Heap} (h : va_P D cl (X ++ T) H) (is : List Nat) (hs : is.filterMap (fun i => X[i]?) = wc) : va_P D cl (wc ++ T) H := by
  refine zt_of (fun q hq => ?_)
  rcases List.mem_append.mp hq with h1 | h1
  · subst hs
    obtain ⟨i, -, hi⟩ := List.mem_filterMap.mp h1
    exact zt_mem h (List.mem_append_left _ (List.mem_of_getElem? hi))
  · exact zt_mem h (List.mem_append_right _ h1)
theorem zt_one {D : va_G} {cl : List vw_C} {ws : va_W} {H : Heap} {i : Nat} {q : Nat × va_E} (h : va_P D cl ws H) (hi : ws[i]? = some q) : va_P D cl [q] H := zt_of (fun z hz => by
  rw [List.mem_singleton] at hz
  subst hz
  exact h i _ hi)
theorem zt_two {D : va_G} {cl : List vw_C} {ws : va_W} {H : Heap} {i j : Nat} {q r : Nat × va_E} (h : va_P D cl ws H) (hi : ws[i]? = some q) (hj : ws[j]? = some r) : va_P D cl [q, r] H := (zt_one h hi).app (zt_one h hj)
section ZPRE
variable {s : State} {H : Heap} {D : va_G} {cl : List vw_C} {tys tc : List (ClassId × FieldType)} {wc : va_W} {av : List Value}
theorem zr_preS {X : State → Prop} (hK : va_K D cl tys s) (hP : va_P D cl wc H) (isT : List Nat) (hT : isT.filterMap (fun i => tys[i]?) = tc) (hXb : z_blind X) (hX : ∀ U : State, U.heap = H → s.WarmedH U.vm → X U) : PreS s H (va_Pc av (zp_pre D cl wc tc X)) av :=
  ⟨fun a U g mk q => by obtain ⟨q0, qP, qK, qX⟩ := q; exact ⟨q0, qP, va_K.moved (u := U) (U := U.calling g mk a) (Vm.Alike.refl U.vm) qK, hXb a U g mk qX⟩,
   fun U hU hW => ⟨rfl, by rw [hU]; exact hP, va_K.moved hW.alike (hK.sub isT hT), hX U hU hW⟩⟩
theorem zr_preV {X : State → Prop} {C : String} {b : Nat} {As : List Value} (hK : va_K D cl tys s) (hP : va_P D cl wc H) (hrecv : ∃ cell : Cell, H[b]? = some cell ∧ cell.vm.isStatics = false ∧ s.vm.findClass C = some cell.cls) (isT : List Nat) (hT : isT.filterMap (fun i => tys[i]?) = tc) (hXb : z_blind X) (hX : ∀ U : State, U.heap = H → s.WarmedH U.vm → X U) : PreV s H C b (va_Pc (.ref b :: As) (zp_pre D cl wc tc X)) As :=
  ⟨(zr_preS (av := .ref b :: As) hK hP isT hT hXb hX).1, hrecv, (zr_preS (av := .ref b :: As) hK hP isT hT hXb hX).2⟩
end ZPRE
/-- a reader that answers a cell -/
abbrev zp_Mr (l : Launch) (y : MethodName) (ws : List Cond) (rm : Room) (av : List Value) (D : va_G) (cl : List vw_C) (wc : va_W) (tc : List (ClassId × FieldType)) (X : State → Prop) (post : Nat → Prop) : Prop :=
  Met l y ws rm (va_Pc av (zp_pre D cl wc tc X)) (va_Sr post (fun a => .ref a)) 0 0 (fun _ => False)
section ZHEADR
variable {l : Launch} {y : MethodName} {ws ws' : List Cond} {rm : Room} {av : List Value} {D : va_G} {cl : List vw_C} {wc : va_W} {tc : List (ClassId × FieldType)} {cc : ByteArray} {maxL : Nat} {ret : Option FieldType}
theorem zp_headr {X : State → Prop} {post : Nat → Prop} (hy : plainName y.cls = true) (hw : ws = Cond.code y cc maxL ret :: ws') (hlen : (lg_sl av).length ≤ maxL)
    (body : ∀ (p : Program) (e : Env) (s : State) (m : MethodId) (below : List Frame) (meth : Method) (c : Code) (ls : Array Slot), z_Fix p m meth c cc maxL ret s av.toArray ws y.cls → va_P D cl wc s.heap → va_K D cl tc s → X s → lv_has ls maxL (lv_args 0 av) →
      W p l e rm s m av.toArray below meth c s.heap [] 0 0 (MQ below (va_Sr post (fun a => .ref a)) av.toArray s 0 0 (fun _ => False)) (F0 m 0 ls [])) : zp_Mr l y ws rm av D cl wc tc X post := by
  refine Met.ofW (cc := cc) (maxL := maxL) (ret := ret) hy hw ?_
  intro p e s m args below meth c s₁ B hml hv
  obtain ⟨rfl, hP, hK, hX⟩ := hv
  rw [lg_entry_eq]
  exact body p e s m below meth c _ ⟨B.exec, B.bytes, hml, B.returns, B.notSynchronized, findClass_of_methodNamed B.named, atoms_spec (ws := ws) B.pre⟩ hP hK hX (lv_entry av hlen)
end ZHEADR
section ZENDR
variable {p : Program} {l : Launch} {e : Env} {R : Room} {s : State} {m : MethodId} {args : Array Value} {below : List Frame} {meth : Method} {c : Code} {cc : ByteArray} {pc : Nat} {ls : Array Slot}
theorem zp_aret {post : Nat → Prop} {a : Nat} {rt : FieldType} (hx : p.tables.exec = Jvm.exec) (hb : c.code = cc) (hr : meth.sig.returnType = some rt) (hrt : (∃ n, rt = .object n) ∨ ∃ t, rt = .array t) (hlocks : meth.locks = false) (hq : post a) (hdg : decode cc pc = .ok (.areturn, 1)) :
    W p l e R s m args below meth c s.heap [] 0 0 (MQ below (va_Sr post (fun a => .ref a)) args s 0 0 (fun _ => False)) (F0 m pc ls [.ref a]) :=
  W.aret (free := fun _ => False) hx hb hr hrt (Or.inr ⟨a, rfl⟩) (fun t ht _ => ⟨a, rfl, hq, ht⟩) (fun q h => by cases h) hdg hlocks
end ZENDR
/-! ===== comparisons of ints as comparisons of integers ===== -/
theorem z_lt {a b : Int32} (h : a < b) : a.toInt < b.toInt := Int32.lt_iff_toInt_lt.mp h
theorem z_nlt {a b : Int32} (h : ¬ a < b) : b.toInt ≤ a.toInt := Int32.le_iff_toInt_le.mp (Int32.not_lt.mp h)
theorem z_le {a b : Int32} (h : a ≤ b) : a.toInt ≤ b.toInt := Int32.le_iff_toInt_le.mp h
theorem z_nle {a b : Int32} (h : ¬ a ≤ b) : b.toInt < a.toInt := Int32.lt_iff_toInt_lt.mp (Int32.not_le.mp h)
theorem z_eq {a b : Int32} (h : a = b) : a.toInt = b.toInt := by rw [h]
theorem z_ne {a b : Int32} (h : ¬ a = b) : a.toInt ≠ b.toInt := fun e => h (Int32.toInt_inj.mp e)
theorem z_lt' {a b : Int32} (h : a.toInt < b.toInt) : a < b := Int32.lt_iff_toInt_lt.mpr h
theorem z_le' {a b : Int32} (h : a.toInt ≤ b.toInt) : a ≤ b := Int32.le_iff_toInt_le.mpr h
theorem z_eq' {a b : Int32} (h : a.toInt = b.toInt) : a = b := Int32.toInt_inj.mp h
theorem z_m1 : ((-1) : Int32).toInt = -1 := by decide
/-- what a cell's fields hold -/
abbrev zcf (d : Nat → Nat → Nat) (k : Nat) : List Value := [.int (nI (d 0 k)), .int (nI (d 1 k)), .int (nI (d 2 k)), .int (nI (d 3 k)), .int (nI (d 4 k)), .int (nI (d 5 k)), .int (nI (d 6 k)), .int (nI (d 7 k)), .int (nI (d 8 k)), .int (nI (d 9 k))]
/-- an answer that says whether -/
def z_yn (r : Int32) (P : Prop) : Prop := (r = 1 ∧ P) ∨ (r = 0 ∧ ¬ P)
theorem z_yT {r : Int32} {P : Prop} (h : z_yn r P) (h0 : ¬ r = 0) : P := by
  rcases h with ⟨-, h⟩ | ⟨h, -⟩
  · exact h
  · exact absurd h h0
theorem z_yF {r : Int32} {P : Prop} (h : z_yn r P) (h0 : r = 0) : ¬ P := by
  rcases h with ⟨h, -⟩ | ⟨-, h⟩
  · subst h0; exact absurd h (by decide)
  · exact h
theorem z_y01 {r : Int32} {P : Prop} (h : z_yn r P) : r = 0 ∨ r = 1 := by
  rcases h with ⟨h, -⟩ | ⟨h, -⟩
  · exact Or.inr h
  · exact Or.inl h
theorem z_y1 {P : Prop} (h : P) : z_yn 1 P := Or.inl ⟨rfl, h⟩
theorem z_y0 {P : Prop} (h : ¬ P) : z_yn 0 P := Or.inr ⟨rfl, h⟩
/-! ===== writing ===== -/
theorem z_upd {f : Nat → Nat} {k v : Nat} (hk : k < 2147483648) : upd (fun j => nI (f j)) (nI k).toNatClampNeg (nI v) = fun j => nI (va_up f k v j) := by
  funext j
  rw [nI_clamp (by omega)]
  by_cases h : j = k
  · subst h; rw [va_up_self]; exact pk_us
  · rw [va_up_ne _ _ h]; exact pk_un h
def zup (d : Nat → Nat → Nat) (j k v : Nat) : Nat → Nat → Nat := fun a b => if a = j ∧ b = k then v else d a b
theorem zup_s {d : Nat → Nat → Nat} {j k v : Nat} : zup d j k v j k = v := if_pos ⟨rfl, rfl⟩
theorem zup_n {d : Nat → Nat → Nat} {j k v a b : Nat} (h : ¬ (a = j ∧ b = k)) : zup d j k v a b = d a b := if_neg h
theorem zt_subD {A : Nat → Prop} {X T wc : va_W} (h : va_D A (X ++ T)) (is : List Nat) (hn : va_nd is = true) (hs : is.map (fun i => X[i]?) = wc.map some) : va_D A (wc ++ T) := by
  have lt : ∀ i ∈ is, ∃ q, X[i]? = some q := by
    intro i hi
    have h1 : X[i]? ∈ wc.map some := by rw [← hs]; exact List.mem_map.mpr ⟨i, hi, rfl⟩
    obtain ⟨q, -, hq⟩ := List.mem_map.mp h1
    exact ⟨q, hq.symm⟩
  have at1 : ∀ (k : Nat) (q : Nat × va_E), wc[k]? = some q → ∃ i, is[k]? = some i ∧ X[i]? = some q := by
    intro k q hq
    have h1 : (is.map (fun i => X[i]?))[k]? = some (some q) := by rw [hs, List.getElem?_map, hq]; rfl
    rw [List.getElem?_map] at h1
    cases hi : is[k]? with
    | none => rw [hi] at h1; cases h1
    | some i => rw [hi] at h1; exact ⟨i, rfl, Option.some.inj h1⟩
  have up : ∀ (i : Nat) (q : Nat × va_E), X[i]? = some q → (X ++ T)[i]? = some q := fun i q hq => by
    rw [List.getElem?_append_left (List.getElem?_eq_some_iff.mp hq).1]; exact hq
  have upT : ∀ (i : Nat) (q : Nat × va_E), T[i]? = some q → (X ++ T)[X.length + i]? = some q := fun i q hq => by
    rw [List.getElem?_append_right (by omega), Nat.add_sub_cancel_left]; exact hq
  refine va_D.app ⟨fun i j p q hp hq e => ?_, fun k q hq => ?_⟩ ⟨fun i j p q hp hq e => ?_, fun k q hq => ?_⟩ (fun i j p q hp hq e => ?_)
  · obtain ⟨a, ha, hxa⟩ := at1 i p hp
    obtain ⟨b, hb, hxb⟩ := at1 j q hq
    have := h.1 a b p q (up a p hxa) (up b q hxb) e
    subst this
    exact va_nd_inj is hn i j a ha hb
  · obtain ⟨a, ha, hxa⟩ := at1 k q hq
    exact h.2 a q (up a q hxa)
  · have := h.1 (X.length + i) (X.length + j) p q (upT i p hp) (upT j q hq) e
    omega
  · exact h.2 (X.length + k) q (upT k q hq)
  · obtain ⟨a, ha, hxa⟩ := at1 i p hp
    have h1 := h.1 a (X.length + j) p q (up a p hxa) (upT j q hq) e
    have h2 := (List.getElem?_eq_some_iff.mp hxa).1
    omega
theorem zcs_set' {X : va_W} {L n k : Nat} {ad : Nat → Nat} {F : Nat → List Value} {v : List Value} (hL : X.length = L) (h : k < n) : (X ++ zcs n ad F).set (L + k) (ad k, .inr (7, v)) = X ++ zcs n ad (va_up F k v) := by
  subst hL
  apply List.ext_getElem?
  intro j
  by_cases hj : j = X.length + k
  · subst hj
    rw [List.getElem?_set_self (by simp [zcs]; omega), zcs_get rfl h, va_up_self]
  · rw [List.getElem?_set_ne (Ne.symm hj)]
    by_cases hx : j < X.length
    · rw [List.getElem?_append_left hx, List.getElem?_append_left hx]
    · rw [List.getElem?_append_right (by omega), List.getElem?_append_right (by omega)]
      simp only [zcs, List.getElem?_map]
      cases hb : (List.range n)[j - X.length]? with
      | none => rfl
      | some b =>
        have hb2 : b = j - X.length := by
          have := List.getElem?_eq_some_iff.mp hb
          obtain ⟨h1, h2⟩ := this
          rw [List.getElem_range] at h2
          exact h2.symm
        have : b ≠ k := by omega
        simp [va_up, this]
theorem zcs_set {A : Nat → Prop} {X : va_W} {L n k : Nat} {ad : Nat → Nat} {F : Nat → List Value} {v : List Value} (_ : va_D A ((X ++ zcs n ad F).set (L + k) (ad k, .inr (7, v)))) (hL : X.length = L) (h : k < n) : (X ++ zcs n ad F).set (L + k) (ad k, .inr (7, v)) = X ++ zcs n ad (va_up F k v) := zcs_set' hL h
theorem zcf_up {d : Nat → Nat → Nat} {k v : Nat} (j : Nat) (hj : j < 10) : va_up (zcf d) k ((zcf d k).set j (.int (nI v))) = zcf (zup d j k v) := by
  funext b
  by_cases h : b = k
  · subst h
    rw [va_up_self]
    match j, hj with
    | 0, _ => simp [zcf, zup]
    | 1, _ => simp [zcf, zup]
    | 2, _ => simp [zcf, zup]
    | 3, _ => simp [zcf, zup]
    | 4, _ => simp [zcf, zup]
    | 5, _ => simp [zcf, zup]
    | 6, _ => simp [zcf, zup]
    | 7, _ => simp [zcf, zup]
    | 8, _ => simp [zcf, zup]
    | 9, _ => simp [zcf, zup]
    | (j + 10), h => exact absurd h (by omega)
  · rw [va_up_ne _ _ h]
    simp [zcf, zup, h]
end
section
/-- the slot x, y lies in the cell l, c, t, r -/
def zTk (l c t r : Nat) (x y : Int32) : Prop := ((l : Int) ≤ x.toInt ∧ x.toInt < l + c) ∧ ((t : Int) ≤ y.toInt ∧ y.toInt < t + r)
abbrev zTd (d : Nat → Nat → Nat) (k : Nat) (x y : Int32) : Prop := zTk (d 0 k) (d 2 k) (d 1 k) (d 7 k) x y
/-- the first of n for which P holds, or -1 -/
def zFst (n : Nat) (P : Nat → Prop) (r : Int32) : Prop := (r = -1 ∧ ∀ k, k < n → ¬ P k) ∨ ∃ k, k < n ∧ r = nI k ∧ P k ∧ ∀ j, j < k → ¬ P j
theorem zFst_eq {n : Nat} {P : Nat → Prop} {r q : Int32} (h1 : zFst n P r) (h2 : zFst n P q) : r = q := by
  rcases h1 with ⟨rfl, a⟩ | ⟨k, hk, rfl, hp, hf⟩ <;> rcases h2 with ⟨rfl, b⟩ | ⟨j, hj, rfl, hq, hg⟩
  · rfl
  · exact absurd hq (a j hj)
  · exact absurd hp (b k hk)
  · rcases Nat.lt_trichotomy k j with h | h | h
    · exact absurd hp (hg k h)
    · rw [h]
    · exact absurd hq (hf j h)
theorem z_tk1 {l c t r : Nat} {x y : Int32} (h : ((l : Int) ≤ x.toInt ∧ x.toInt < l + c) ∧ ((t : Int) ≤ y.toInt ∧ y.toInt < t + r)) : z_yn 1 (zTk l c t r x y) := z_y1 h
theorem z_tk0 {l c t r : Nat} {x y : Int32} (h : ¬ (((l : Int) ≤ x.toInt ∧ x.toInt < l + c) ∧ ((t : Int) ≤ y.toInt ∧ y.toInt < t + r))) : z_yn 0 (zTk l c t r x y) := z_y0 h
/-- how many of the first n are such -/
def zCnt (P : Nat → Bool) : Nat → Nat
  | 0 => 0
  | n + 1 => zCnt P n + (if P n then 1 else 0)
/-- the sum of the first n -/
def zSum (f : Nat → Nat) : Nat → Nat
  | 0 => 0
  | n + 1 => zSum f n + f n
theorem zSum_le {f : Nat → Nat} {b : Nat} : ∀ n, (∀ k, k < n → f k ≤ b) → zSum f n ≤ n * b := by
  intro n
  induction n with
  | zero => intro _; simp [zSum]
  | succ n ih =>
    intro h
    have h1 := ih (fun k hk => h k (by omega))
    have h2 := h n (by omega)
    rw [zSum, Nat.add_mul, Nat.one_mul]
    omega
/-- how many of the first n are such -/
noncomputable def zCn (P : Nat → Prop) : Nat → Nat
  | 0 => 0
  | n + 1 => zCn P n + @ite Nat (P n) (Classical.propDecidable _) 1 0
theorem zCn_T {P : Nat → Prop} {n : Nat} (h : P n) : zCn P (n + 1) = zCn P n + 1 := by
  show zCn P n + @ite Nat (P n) (Classical.propDecidable _) 1 0 = _
  rw [if_pos h]
theorem zCn_F {P : Nat → Prop} {n : Nat} (h : ¬ P n) : zCn P (n + 1) = zCn P n := by
  show zCn P n + @ite Nat (P n) (Classical.propDecidable _) 1 0 = _
  rw [if_neg h, Nat.add_zero]
theorem zCn_le {P : Nat → Prop} : ∀ n, zCn P n ≤ n := by
  intro n
  induction n with
  | zero => exact Nat.le_refl _
  | succ n ih =>
    by_cases h : P n
    · rw [zCn_T h]; omega
    · rw [zCn_F h]; omega
/-- none of the first n has the value x -/
def zEc (n : Nat) (f : Nat → Nat) (x : Nat) : Prop := ¬ ∃ k, k < n ∧ f k = x
/-- the slot x, y lies in the cell k -/
def zTN (d : Nat → Nat → Nat) (k x y : Nat) : Prop := (d 0 k ≤ x ∧ x < d 0 k + d 2 k) ∧ (d 1 k ≤ y ∧ y < d 1 k + d 7 k)
theorem zTd_nat {d : Nat → Nat → Nat} {k x y : Nat} (hx : x < 2147483648) (hy : y < 2147483648) : zTd d k (nI x) (nI y) ↔ zTN d k x y := by
  have h1 := nI_toInt (n := x) (by omega)
  have h2 := nI_toInt (n := y) (by omega)
  unfold zTd zTk zTN
  rw [h1, h2]
  omega
/-- some cell of n lies over the slot -/
def zOwd (n : Nat) (d : Nat → Nat → Nat) (x y : Nat) : Prop := ∃ k, k < n ∧ zTN d k x y
theorem zFst_none {n : Nat} {d : Nat → Nat → Nat} {x y : Nat} {r : Int32} (hn : n < 2147483648) (hx : x < 2147483648) (hy : y < 2147483648) (h : zFst n (fun k => zTd d k (nI x) (nI y)) r) : r.toInt = -1 ↔ ¬ zOwd n d x y := by
  rcases h with ⟨rfl, h⟩ | ⟨k, hk, rfl, hp, -⟩
  · refine ⟨fun _ => fun ⟨k, hk, hq⟩ => h k hk ((zTd_nat hx hy).mpr hq), fun _ => by decide⟩
  · have := nI_toInt (n := k) (by omega)
    refine ⟨fun h => by omega, fun h => absurd ⟨k, hk, (zTd_nat hx hy).mp hp⟩ h⟩
theorem z_ofIn {c : Int32} {n : Nat} (h0 : 0 ≤ c.toInt) (h1 : c.toInt < n) (hn : n < 2147483648) : ∃ k, k < n ∧ c = nI k := by
  refine ⟨c.toInt.toNat, by omega, z_eq' ?_⟩
  rw [nI_toInt (by omega)]
  omega
/-- the border of the cell (t, r) is drawn instead of that of the former (t0, r0) -/
def zPv (t r t0 r0 : Nat) : Prop := r0 ≠ 4 ∧ (r = 4 ∨ t0 < t ∨ (t = t0 ∧ r0 < r))
/-- whose border is drawn between a slot of the cell c1 and one of the cell c2 -/
def zDr (n : Nat) (th rk : Nat → Nat) (c1 c2 r : Int32) : Prop :=
  (c1 = c2 ∧ r = -1) ∨ (¬ c1 = c2 ∧ ¬ (0 ≤ c1.toInt ∧ c1.toInt < n) ∧ r = c2) ∨ (¬ c1 = c2 ∧ (0 ≤ c1.toInt ∧ c1.toInt < n) ∧ ¬ (0 ≤ c2.toInt ∧ c2.toInt < n) ∧ r = c1) ∨
  (¬ c1 = c2 ∧ ∃ k1 k2, k1 < n ∧ k2 < n ∧ c1 = nI k1 ∧ c2 = nI k2 ∧ ((zPv (th k2) (rk k2) (th k1) (rk k1) ∧ r = c2) ∨ (¬ zPv (th k2) (rk k2) (th k1) (rk k1) ∧ r = c1)))
end
section
/-! the reference's own numbers: m 0 bases, 1 begun, 2 lefts, 3 tops, 4 across, 5 wants, 6 groupOf, 7 leasts, 8 mosts, 9 needs, 10 thick, 11 ranks -/
def zW (m : Nat → Nat → Nat) (k : Nat) : Nat := if 0 < m 5 k then m 5 k else 1
theorem zW_T {m : Nat → Nat → Nat} {k : Nat} (h : 0 < m 5 k) : zW m k = m 5 k := if_pos h
theorem zW_F {m : Nat → Nat → Nat} {k : Nat} (h : ¬ 0 < m 5 k) : zW m k = 1 := if_neg h
theorem zW_le {m : Nat → Nat → Nat} (hm : ∀ a k, m a k ≤ 1000) (k : Nat) : zW m k ≤ 1000 := by
  have := hm 5 k
  by_cases h : 0 < m 5 k
  · rw [zW_T h]; omega
  · rw [zW_F h]; omega
/-- the end of the group g, of the first k cells -/
def zEn (m : Nat → Nat → Nat) (g : Nat) : Nat → Nat
  | 0 => m 0 g + m 1 g
  | k + 1 => if m 6 k = g ∧ zEn m g k < m 3 k + zW m k then m 3 k + zW m k else zEn m g k
theorem zEn_1 {m : Nat → Nat → Nat} {g k : Nat} (h1 : m 6 k = g) (h2 : zEn m g k < m 3 k + zW m k) : zEn m g (k + 1) = m 3 k + zW m k := if_pos ⟨h1, h2⟩
theorem zEn_0 {m : Nat → Nat → Nat} {g k : Nat} (h : ¬ (m 6 k = g ∧ zEn m g k < m 3 k + zW m k)) : zEn m g (k + 1) = zEn m g k := if_neg h
theorem zEn_le {m : Nat → Nat → Nat} (hm : ∀ a k, m a k ≤ 1000) (g : Nat) : ∀ k, zEn m g k ≤ 2000 := by
  intro k
  induction k with
  | zero =>
    have h1 := hm 0 g
    have h2 := hm 1 g
    show m 0 g + m 1 g ≤ 2000
    omega
  | succ k ih =>
    have h1 := hm 3 k
    have h2 := zW_le hm k
    by_cases h : m 6 k = g ∧ zEn m g k < m 3 k + zW m k
    · rw [zEn_1 h.1 h.2]; omega
    · rw [zEn_0 h]; exact ih
/-- how many columns the first k cells take -/
def zCo (m : Nat → Nat → Nat) : Nat → Nat
  | 0 => 0
  | k + 1 => if zCo m k < m 2 k + m 4 k then m 2 k + m 4 k else zCo m k
theorem zCo_1 {m : Nat → Nat → Nat} {k : Nat} (h : zCo m k < m 2 k + m 4 k) : zCo m (k + 1) = m 2 k + m 4 k := if_pos h
theorem zCo_0 {m : Nat → Nat → Nat} {k : Nat} (h : ¬ zCo m k < m 2 k + m 4 k) : zCo m (k + 1) = zCo m k := if_neg h
theorem zCo_le {m : Nat → Nat → Nat} (hm : ∀ a k, m a k ≤ 1000) : ∀ k, zCo m k ≤ 2000 := by
  intro k
  induction k with
  | zero => exact Nat.zero_le _
  | succ k ih =>
    have h1 := hm 2 k
    have h2 := hm 4 k
    by_cases h : zCo m k < m 2 k + m 4 k
    · rw [zCo_1 h]; omega
    · rw [zCo_0 h]; exact ih
/-- how many rows the cell k takes, of n -/
def zDn (m : Nat → Nat → Nat) (n k : Nat) : Nat := if 0 < m 5 k then m 5 k else zEn m (m 6 k) n - m 3 k
theorem zDn_T {m : Nat → Nat → Nat} {n k : Nat} (h : 0 < m 5 k) : zDn m n k = m 5 k := if_pos h
theorem zDn_F {m : Nat → Nat → Nat} {n k : Nat} (h : ¬ 0 < m 5 k) : zDn m n k = zEn m (m 6 k) n - m 3 k := if_neg h
theorem zDn_le {m : Nat → Nat → Nat} (hm : ∀ a k, m a k ≤ 1000) (n k : Nat) : zDn m n k ≤ 2000 := by
  have h1 := hm 5 k
  have h2 := zEn_le hm (m 6 k) n
  by_cases h : 0 < m 5 k
  · rw [zDn_T h]; omega
  · rw [zDn_F h]; omega
/-- the cell k takes the column x of the row that is open -/
def zIt (m : Nat → Nat → Nat) (rg rn x k : Nat) : Prop := (m 6 k + 1 = rg ∧ (m 5 k = 0 ∨ rn < m 3 k + m 5 k)) ∧ (m 2 k ≤ x ∧ x < m 2 k + m 4 k)
theorem z_exL {P : Nat → Prop} {i : Nat} (h : ∃ k, k < i ∧ P k) : ∃ k, k < i + 1 ∧ P k := by
  obtain ⟨k, hk, hp⟩ := h
  exact ⟨k, by omega, hp⟩
theorem z_exR {P : Nat → Prop} {i : Nat} (h : P i) : ∃ k, k < i + 1 ∧ P k := ⟨i, by omega, h⟩
theorem z_ex0 {P : Nat → Prop} {i : Nat} (h : ¬ ∃ k, k < i ∧ P k) (h1 : ¬ P i) : ¬ ∃ k, k < i + 1 ∧ P k := by
  rintro ⟨k, hk, hp⟩
  by_cases e : k = i
  · subst e; exact h1 hp
  · exact h ⟨k, by omega, hp⟩
abbrev zMt (m : Nat → Nat → Nat) (n : Nat) (x y : Int32) (k : Nat) : Prop := zTk (m 2 k) (m 4 k) (m 3 k) (zDn m n k) x y
/-- the first from lo on -/
def zFf (lo n : Nat) (P : Nat → Prop) (r : Int32) : Prop := (r = -1 ∧ ∀ k, lo ≤ k → k < n → ¬ P k) ∨ ∃ k, lo ≤ k ∧ k < n ∧ r = nI k ∧ P k ∧ ∀ j, lo ≤ j → j < k → ¬ P j
theorem zFf_0 {n : Nat} {P : Nat → Prop} {r : Int32} (h : zFf 0 n P r) : zFst n P r := by
  rcases h with ⟨h1, h2⟩ | ⟨k, -, h2, h3, h4, h5⟩
  · exact Or.inl ⟨h1, fun k hk => h2 k (Nat.zero_le _) hk⟩
  · exact Or.inr ⟨k, h2, h3, h4, fun j hj => h5 j (Nat.zero_le _) hj⟩
theorem zFf_n {lo n : Nat} {P : Nat → Prop} (h : n ≤ lo) : zFf lo n P (-1) := Or.inl ⟨rfl, fun k h1 h2 => by omega⟩
theorem zFf_T {lo n : Nat} {P : Nat → Prop} (hn : lo < n) (hp : P lo) : zFf lo n P (nI lo) := Or.inr ⟨lo, Nat.le_refl _, hn, rfl, hp, fun j h1 h2 => by omega⟩
theorem zFf_F {lo n : Nat} {P : Nat → Prop} {r : Int32} (h : zFf (lo + 1) n P r) (hp : ¬ P lo) : zFf lo n P r := by
  rcases h with ⟨h1, h2⟩ | ⟨k, h1, h2, h3, h4, h5⟩
  · refine Or.inl ⟨h1, fun k hk hn => ?_⟩
    by_cases e : k = lo
    · subst e; exact hp
    · exact h2 k (by omega) hn
  · refine Or.inr ⟨k, by omega, h2, h3, h4, fun j hj hk => ?_⟩
    by_cases e : j = lo
    · subst e; exact hp
    · exact h5 j (by omega) hk
/-- how many cells lie over a slot -/
noncomputable def zHm (m : Nat → Nat → Nat) (n x y : Nat) : Nat := zCn (zMt m n (nI x) (nI y)) n
theorem zHm_le {m : Nat → Nat → Nat} (n x y : Nat) : zHm m n x y ≤ n := zCn_le n
def zOv (h : Nat → Nat) : Nat → Nat
  | 0 => 0
  | p + 1 => zOv h p + (h p - 1)
theorem zOv_le {h : Nat → Nat} {b : Nat} (hb : ∀ p, h p ≤ b) : ∀ p, zOv h p ≤ p * b := by
  intro p
  induction p with
  | zero => simp [zOv]
  | succ p ih =>
    have := hb p
    rw [zOv, Nat.add_mul, Nat.one_mul]
    omega
end
section
theorem z_ynI {r : Int32} {P Q : Prop} (h : z_yn r P) (e : P ↔ Q) : z_yn r Q := by
  rcases h with ⟨a, b⟩ | ⟨a, b⟩
  · exact Or.inl ⟨a, e.mp b⟩
  · exact Or.inr ⟨a, fun q => b (e.mpr q)⟩
/-- the line x is one of b, and none of the first n has it -/
def zPe (b n : Nat) (f : Nat → Nat) (x : Nat) : Prop := x < b ∧ ∀ k, k < n → ¬ f k = x
theorem zPe_0 {b x : Nat} {f : Nat → Nat} : x < b ↔ zPe b 0 f x := ⟨fun h => ⟨h, fun k hk => absurd hk (Nat.not_lt_zero _)⟩, fun h => h.1⟩
theorem zPe_1 {b n x : Nat} {f : Nat → Nat} (h : zPe b n f x) (h1 : ¬ f n = x) : zPe b (n + 1) f x := ⟨h.1, lt_s h.2 h1⟩
theorem zPe_F {b n x : Nat} {f : Nat → Nat} (h : ¬ zPe b n f x) : ¬ zPe b (n + 1) f x := fun q => h ⟨q.1, fun k hk => q.2 k (by omega)⟩
theorem zPe_E {b n x : Nat} {f : Nat → Nat} (h : f n = x) : ¬ zPe b (n + 1) f x := fun q => q.2 n (by omega) h
theorem zFst_or {n : Nat} {P : Nat → Prop} {r : Int32} (h : zFst n P r) : r = -1 ∨ ∃ k, k < n ∧ r = nI k := by
  rcases h with ⟨h, -⟩ | ⟨k, hk, h, -⟩
  · exact Or.inl h
  · exact Or.inr ⟨k, hk, h⟩
/-! what the reference's writers leave -/
def zmGr (m : Nat → Nat → Nat) (n g : Nat) : Nat → Nat → Nat := fun a => match a with
  | 0 => va_up (m 0) g (zEn m (g - 1) n)
  | 1 => va_up (m 1) g 0
  | a => m a
def zmRw (m : Nat → Nat → Nat) (g : Nat) : Nat → Nat → Nat := fun a => match a with
  | 1 => va_up (m 1) (g - 1) (m 1 (g - 1) + 1)
  | a => m a
def zmCl (m : Nat → Nat → Nat) : Nat → Nat → Nat := fun a => match a with
  | 0 => va_up (m 0) 0 0
  | 1 => va_up (m 1) 0 0
  | a => m a
def zmPt (m : Nat → Nat → Nat) (n x rn a b g c d e : Nat) : Nat → Nat → Nat := fun i => match i with
  | 2 => va_up (m 2) n x
  | 3 => va_up (m 3) n rn
  | 4 => va_up (m 4) n a
  | 5 => va_up (m 5) n b
  | 6 => va_up (m 6) n g
  | 7 => va_up (m 7) n c
  | 8 => va_up (m 8) n d
  | 9 => va_up (m 9) n e
  | 10 => va_up (m 10) n 0
  | 11 => va_up (m 11) n 0
  | i => m i
def zmBo (m : Nat → Nat → Nat) (k t w : Nat) : Nat → Nat → Nat := fun i => match i with
  | 10 => va_up (m 10) k t
  | 11 => va_up (m 11) k w
  | i => m i
/-- the numbers that a cell may have -/
def zGood (a b c d e : Int32) : Prop := ((1 ≤ a.toInt ∧ a.toInt ≤ 6) ∧ (0 ≤ b.toInt ∧ b.toInt ≤ 6)) ∧ ((0 ≤ c.toInt ∧ c.toInt ≤ d.toInt) ∧ d.toInt ≤ 1000) ∧ (0 ≤ e.toInt ∧ e.toInt ≤ 1000)
/-- the first free column of the row that is open -/
def zFree (T : Nat → Prop) (ro x : Nat) : Prop := ro ≤ x ∧ x ≤ 12 ∧ (∀ j, ro ≤ j → j < x → T j) ∧ (x < 12 → ¬ T x)
/-- what cell answers, and what it leaves, of the reference -/
def zmCe (m : Nat → Nat → Nat) (n rg mg rn ro : Nat) (a b c d e r : Int32) (n2 ro2 : Nat) (m2 : Nat → Nat → Nat) : Prop :=
  (¬ (zGood a b c d e ∧ rg = mg ∧ ¬ n = 40) ∧ r = -1 ∧ n2 = n ∧ ro2 = ro ∧ m2 = m) ∨
  ((zGood a b c d e ∧ rg = mg ∧ ¬ n = 40) ∧ ∃ x a1 b1 c1 d1 e1, zFree (fun x => ∃ k, k < n ∧ zIt m rg rn x k) ro x ∧ a = nI a1 ∧ b = nI b1 ∧ c = nI c1 ∧ d = nI d1 ∧ e = nI e1 ∧
    (((12 < x + a1 ∨ 12 < rn + b1) ∧ r = -1 ∧ n2 = n ∧ ro2 = ro ∧ m2 = m) ∨ (¬ (12 < x + a1 ∨ 12 < rn + b1) ∧ r = nI n ∧ n2 = n + 1 ∧ ro2 = x + a1 ∧ m2 = zmPt m n x rn a1 b1 (rg - 1) c1 d1 e1)))
theorem z_lts {P : Nat → Prop} {ro i : Nat} (h : ∀ j, ro ≤ j → j < i → P j) (hi : P i) : ∀ j, ro ≤ j → j < i + 1 → P j := by
  intro j h1 h2
  by_cases e : j = i
  · subst e; exact hi
  · exact h j h1 (by omega)
theorem z_f01 {f : Nat} (h : f ≤ 1) : nI f = 0 ∨ nI f = 1 := by
  rcases (show f = 0 ∨ f = 1 by omega) with rfl | rfl
  · exact Or.inl rfl
  · exact Or.inr rfl
end
section
/-! ===== calls of writers where cells stand in any number ===== -/
section ZW1
variable {p : Program} {l : Launch} {e : Env} {R : Room} {s : State} {m : MethodId} {args : Array Value} {below : List Frame} {meth : Method} {c : Code} {H : Heap} {locs : List Loc} {cells slots : Nat} {Q : State → Prop}
variable {pc : Nat} {ls : Array Slot} {rest st0 : List Value} {aa : Array Value} {A : Nat → Prop} {H0 : Heap} {mc ms : Nat} {D : va_G} {cl : List vw_C} {tys : List (ClassId × FieldType)} {ws : va_W}
/-- one cell of the world is cut out, and comes back changed -/
theorem z_join1 {A0 : Nat → Prop} {i a : Nat} {e0 e1 : va_E} {H1 : Heap} (hP : va_P D cl ws H) (hD : va_D A0 ws) (hi : ws[i]? = some (a, e0)) (hk : ∀ q : Nat, q < H.size → ¬ va_A [(a, e0)] H.size q → H1[q]? = H[q]?) (hP1 : va_P D cl [(a, e1)] H1) : va_P D cl (ws.set i (a, e1)) H1 ∧ va_D A0 (ws.set i (a, e1)) := by
  refine ⟨fun j q hq => ?_, hD.set hi⟩
  have hl := (List.getElem?_eq_some_iff.mp hi).1
  by_cases hj : j = i
  · subst hj
    rw [List.getElem?_set_self hl] at hq
    obtain rfl := Option.some.inj hq
    exact hP1 0 _ rfl
  · rw [List.getElem?_set_ne (Ne.symm hj)] at hq
    refine (hP j q hq).kept (hk q.1 (hP j q hq).lt ?_)
    rintro (⟨k, e2, h⟩ | h)
    · have h2 := List.mem_of_getElem? h
      rw [List.mem_singleton] at h2
      have h3 : q.1 = a := congrArg Prod.fst h2
      exact hj (hD.1 j i q (a, e0) hq hi h3)
    · have := (hP j q hq).lt
      omega
theorem z_pre1 {X : (Nat → Prop) → State → Prop} {i a ci : Nat} {fs : List Value} {qc : vw_C} {As : List Value} (hK : va_K D cl tys s) (hP : va_P D cl ws H) (hi : ws[i]? = some (a, .inr (ci, fs))) (hc : cl[ci]? = some qc) (hXb : z_blind (X (va_A [(a, .inr (ci, fs))] H.size))) (hX : ∀ U : State, U.heap = H → s.WarmedH U.vm → X (va_A [(a, .inr (ci, fs))] H.size) U) : PreV s H qc.1 a (va_Pc (.ref a :: As) (zw_pre D cl [(a, .inr (ci, fs))] [] X H.size)) As :=
  ⟨fun aa U g mk q => by obtain ⟨q0, q1, qP, qK, qD, qX⟩ := q; exact ⟨q0, q1, qP, va_K.moved (u := U) (U := U.calling g mk aa) (Vm.Alike.refl U.vm) qK, qD, hXb aa U g mk qX⟩,
   va_recv hK hP hc hi,
   fun U hU hW => ⟨rfl, by rw [hU], by rw [hU]; exact zt_one hP hi, va_K.moved hW.alike (hK.sub [] rfl), ⟨fun x y p q hp hq _ => by
     have h1 := (List.getElem?_eq_some_iff.mp hp).1
     have h2 := (List.getElem?_eq_some_iff.mp hq).1
     simp at h1 h2
     omega, fun _ _ _ => trivial⟩, hX U hU hW⟩⟩
theorem zw_call1v {S : Type} {post : S → Prop} {e1 : S → va_E} {i a : Nat} {e0 : va_E} (hK : va_K D cl tys s) (hP : va_P D cl ws H) (hD : va_D A ws) (hS : va_S A H0 H locs) (hA : ∀ q, H0.size ≤ q → A q) (hi : ws[i]? = some (a, e0))
    (hr : va_Run p l e R s m args below meth c H locs cells slots mc ms (F0 m pc ls st0) rest (va_Qv post (zw_B D cl (va_A [(a, e0)] H.size) (fun u => [(a, e1 u)]) (fun _ => [])) (va_A [(a, e0)] H.size) aa) (va_A [(a, e0)] H.size))
    (kk : ∀ (u : S) (H1 : Heap) (locs1 : List Loc), post u → va_P D cl (ws.set i (a, e1 u)) H1 → va_D A (ws.set i (a, e1 u)) → va_S A H0 H1 locs1 → W p l e R s m args below meth c H1 locs1 (cells + mc) (slots + ms) Q (F0 m (pc + 3) ls rest)) : W p l e R s m args below meth c H locs cells slots Q (F0 m pc ls st0) := by
  have hFc : ∀ q, va_A [(a, e0)] H.size q → A q := by
    rintro q (⟨k, e2, h⟩ | h)
    · have h2 := List.mem_of_getElem? h
      rw [List.mem_singleton] at h2
      have h3 : q = a := congrArg Prod.fst h2
      rw [h3]
      exact hD.2 i (a, e0) hi
    · exact hA q (Nat.le_trans hS.1 h)
  refine va_callv hr hS (fun q _ h => hFc q h) hFc (fun u t H1 locs1 ht hvm hw hB hz1 hk1 hS1 => ?_)
  obtain ⟨hP1, hK1, hD1⟩ := hB
  rw [ht] at hP1
  obtain ⟨hP2, hD2⟩ := z_join1 (e1 := e1 u) hP hD hi hk1 hP1
  exact kk u H1 locs1 hw hP2 hD2 hS1
/-- the places of a tail -/
def z_shift (L n : Nat) : List Nat := (List.range n).map (fun i => L + i)
theorem z_shiftC {X T wc : va_W} {isC : List Nat} (hC : isC.map (fun i => X[i]?) = wc.map some) : (isC ++ z_shift X.length T.length).map (fun i => (X ++ T)[i]?) = (wc ++ T).map some := by
  rw [List.map_append, List.map_append]
  congr 1
  · rw [← hC]
    apply List.map_congr_left
    intro i hi
    have h1 : X[i]? ∈ wc.map some := by rw [← hC]; exact List.mem_map.mpr ⟨i, hi, rfl⟩
    obtain ⟨q, -, hq⟩ := List.mem_map.mp h1
    exact List.getElem?_append_left (List.getElem?_eq_some_iff.mp hq.symm).1
  · unfold z_shift
    rw [List.map_map]
    apply List.ext_getElem?
    intro k
    rw [List.getElem?_map, List.getElem?_map]
    by_cases hk : k < T.length
    · rw [List.getElem?_range hk]
      show some ((X ++ T)[X.length + k]?) = _
      rw [List.getElem?_append_right (by omega), Nat.add_sub_cancel_left, List.getElem?_eq_getElem hk]
      rfl
    · rw [List.getElem?_eq_none (by simp; omega), List.getElem?_eq_none (by omega)]
      rfl
theorem z_shiftR {X T wr : va_W} {isR : List Nat} (hR : isR.map (fun i => X[i]?) = wr.map some) : isR.map (fun i => (X ++ T)[i]?) = wr.map some ∧ ∀ i ∈ isR, i < X.length := by
  have key : ∀ i ∈ isR, ∃ q, X[i]? = some q := by
    intro i hi
    have h1 : X[i]? ∈ wr.map some := by rw [← hR]; exact List.mem_map.mpr ⟨i, hi, rfl⟩
    obtain ⟨q, -, hq⟩ := List.mem_map.mp h1
    exact ⟨q, hq.symm⟩
  refine ⟨?_, fun i hi => ?_⟩
  · rw [← hR]
    apply List.map_congr_left
    intro i hi
    obtain ⟨q, hq⟩ := key i hi
    exact List.getElem?_append_left (List.getElem?_eq_some_iff.mp hq).1
  · obtain ⟨q, hq⟩ := key i hi
    exact (List.getElem?_eq_some_iff.mp hq).1
end ZW1
end
section
set_option maxHeartbeats 4000000 in
set_option maxRecDepth 100000 in
theorem f_CE_right (l : Launch) (dC : Nat → ClassId) (dI : Nat → Nat → Nat) (a : Nat) (f0 : Nat) (f1 : Nat) (f2 : Nat) (f3 : Nat) (f4 : Nat) (f5 : Nat) (f6 : Nat) (f7 : Nat) (f8 : Nat) (f9 : Nat) : zp_M l yCE_right wCE_right ({ frames := 0, cells := 0, slots := 0, locals := 0 }) [.ref a] (dC, dI) vwCl [(a, .inr (7, [.int (nI f0), .int (nI f1), .int (nI f2), .int (nI f3), .int (nI f4), .int (nI f5), .int (nI f6), .int (nI f7), .int (nI f8), .int (nI f9)]))] [] (fun _ => True) (fun r => r = nI (f0 + f2)) := by
  refine zp_head (cc := cCE_right) (maxL := 1) (ret := (some .int)) (by decide +kernel) rfl (Nat.le_of_ble_eq_true rfl) ?_
  intro p e s m below meth c ls F hP hK hX hl
  obtain ⟨hx, hb, hml, hr, hlocks, hown, hts⟩ := F
  have hown : s.vm.findClass "SpannedCells$Cell" = some m.cls := hown
  have hz : ∀ w9 ∈ zT, w9.before [.ref a].toArray s = true := fun w9 h => hts w9 (List.mem_cons_of_mem _ h)
  have hl : lv_has ls 1 [(0, .ref a)] := hl
  refine z_q (fun Q hQ => ?_)
  refine lv_aload_n hx hb dCE_right_0 rfl (lv_at hl 0 rfl) ?_
  refine va_get (D := (dC, dI)) (ci := 7) (v := .int (nI f0)) (C := RCE) (T := TCE) (N := 10) hx hb hz in_CE hown hK hP 0 rfl rfl 0 (by decide) (hz _ wd_251) (fun _ h9 => h9) rfl dCE_right_1 ?_
  refine lv_aload_n hx hb dCE_right_4 rfl (lv_at hl 0 rfl) ?_
  refine va_get (D := (dC, dI)) (ci := 7) (v := .int (nI f2)) (C := RCE) (T := TCE) (N := 10) hx hb hz in_CE hown hK hP 0 rfl rfl 2 (by decide) (hz _ wd_260) (fun _ h9 => h9) rfl dCE_right_5 ?_
  refine lv_iadd hx hb dCE_right_8 ?_
  refine lv_topi (fun x1 e2 => ?_)
  have e2 : x1 = nI (f0 + f2) := e2.trans (nI_add _ _)
  subst e2
  subst hQ
  exact zp_iret hx hb hr hlocks (rfl) dCE_right_9

set_option maxHeartbeats 4000000 in
set_option maxRecDepth 100000 in
theorem f_CE_bottom (l : Launch) (dC : Nat → ClassId) (dI : Nat → Nat → Nat) (a : Nat) (f0 : Nat) (f1 : Nat) (f2 : Nat) (f3 : Nat) (f4 : Nat) (f5 : Nat) (f6 : Nat) (f7 : Nat) (f8 : Nat) (f9 : Nat) : zp_M l yCE_bottom wCE_bottom ({ frames := 0, cells := 0, slots := 0, locals := 0 }) [.ref a] (dC, dI) vwCl [(a, .inr (7, [.int (nI f0), .int (nI f1), .int (nI f2), .int (nI f3), .int (nI f4), .int (nI f5), .int (nI f6), .int (nI f7), .int (nI f8), .int (nI f9)]))] [] (fun _ => True) (fun r => r = nI (f1 + f7)) := by
  refine zp_head (cc := cCE_bottom) (maxL := 1) (ret := (some .int)) (by decide +kernel) rfl (Nat.le_of_ble_eq_true rfl) ?_
  intro p e s m below meth c ls F hP hK hX hl
  obtain ⟨hx, hb, hml, hr, hlocks, hown, hts⟩ := F
  have hown : s.vm.findClass "SpannedCells$Cell" = some m.cls := hown
  have hz : ∀ w9 ∈ zT, w9.before [.ref a].toArray s = true := fun w9 h => hts w9 (List.mem_cons_of_mem _ h)
  have hl : lv_has ls 1 [(0, .ref a)] := hl
  refine z_q (fun Q hQ => ?_)
  refine lv_aload_n hx hb dCE_bottom_0 rfl (lv_at hl 0 rfl) ?_
  refine va_get (D := (dC, dI)) (ci := 7) (v := .int (nI f1)) (C := RCE) (T := TCE) (N := 10) hx hb hz in_CE hown hK hP 0 rfl rfl 1 (by decide) (hz _ wd_255) (fun _ h9 => h9) rfl dCE_bottom_1 ?_
  refine lv_aload_n hx hb dCE_bottom_4 rfl (lv_at hl 0 rfl) ?_
  refine va_get (D := (dC, dI)) (ci := 7) (v := .int (nI f7)) (C := RCE) (T := TCE) (N := 10) hx hb hz in_CE hown hK hP 0 rfl rfl 7 (by decide) (hz _ wd_271) (fun _ h9 => h9) rfl dCE_bottom_5 ?_
  refine lv_iadd hx hb dCE_bottom_8 ?_
  refine lv_topi (fun x1 e2 => ?_)
  have e2 : x1 = nI (f1 + f7) := e2.trans (nI_add _ _)
  subst e2
  subst hQ
  exact zp_iret hx hb hr hlocks (rfl) dCE_bottom_9

set_option maxHeartbeats 4000000 in
set_option maxRecDepth 100000 in
theorem f_CE_takes (l : Launch) (dC : Nat → ClassId) (dI : Nat → Nat → Nat) (a : Nat) (f0 : Nat) (f1 : Nat) (f2 : Nat) (f3 : Nat) (f4 : Nat) (f5 : Nat) (f6 : Nat) (f7 : Nat) (f8 : Nat) (f9 : Nat) (x : Int32) (y : Int32) (h1 : f0 + f2 < 2147483648) (h2 : f1 + f7 < 2147483648) : zp_M l yCE_takes wCE_takes ({ frames := 1, cells := 0, slots := 0, locals := 20 }) [.ref a, .int x, .int y] (dC, dI) vwCl [(a, .inr (7, [.int (nI f0), .int (nI f1), .int (nI f2), .int (nI f3), .int (nI f4), .int (nI f5), .int (nI f6), .int (nI f7), .int (nI f8), .int (nI f9)]))] [] (fun _ => True) (fun r => z_yn r (zTk f0 f2 f1 f7 x y)) := by
  refine zp_head (cc := cCE_takes) (maxL := 3) (ret := (some .boolean)) (by decide +kernel) rfl (Nat.le_of_ble_eq_true rfl) ?_
  intro p e s m below meth c ls F hP hK hX hl
  obtain ⟨hx, hb, hml, hr, hlocks, hown, hts⟩ := F
  have hown : s.vm.findClass "SpannedCells$Cell" = some m.cls := hown
  have hz : ∀ w9 ∈ zT, w9.before [.ref a, .int x, .int y].toArray s = true := fun w9 h => hts w9 (List.mem_cons_of_mem _ h)
  have hl : lv_has ls 3 [(0, .ref a), (1, .int x), (2, .int y)] := hl
  refine z_q (fun Q hQ => ?_)
  refine lv_aload_n hx hb dCE_takes_0 rfl (lv_at hl 0 rfl) ?_
  refine va_get (D := (dC, dI)) (ci := 7) (v := .int (nI f0)) (C := RCE) (T := TCE) (N := 10) hx hb hz in_CE hown hK hP 0 rfl rfl 0 (by decide) (hz _ wd_251) (fun _ h9 => h9) rfl dCE_takes_1 ?_
  refine lv_iload_n hx hb dCE_takes_4 rfl (lv_at hl 1 rfl) ?_
  have t1 := nI_toInt (n := f0) (by omega)
  refine lv_icmp_gt (tgt := 36) hx hb dCE_takes_5 rfl (fun h2 => ?_) (fun h2 => ?_)
  · have h2 := z_lt h2
    refine lv_iconst (v := nI 0) hx hb dCE_takes_36 (by decide) ?_
    subst hQ
    exact zp_zret hx hb hr hlocks (Or.inl rfl) (z_tk0 (by omega)) dCE_takes_37
  · have h2 := z_nlt h2
    refine lv_iload_n hx hb dCE_takes_8 rfl (lv_at hl 1 rfl) ?_
    refine lv_aload_n hx hb dCE_takes_9 rfl (lv_at hl 0 rfl) ?_
    refine vp_callSi (W.runV (As := []) (rest := [.int x]) ⟨hx, hb, hml, hown, hz⟩ (f_CE_right l dC dI a f0 f1 f2 f3 f4 f5 f6 f7 f8 f9 ) (cwV 0 hz (z_gV wd_238 wd_239 wd_240 wd_41 wd_241) rfl rfl rfl (by decide +kernel) ⟨Nat.le_of_ble_eq_true rfl, Nat.le_of_ble_eq_true rfl⟩) (zr_preV hK (hP.sub [0] rfl) (va_recv (q0 := 0) hK hP (q := (RCE, TCE, 10)) rfl rfl) [] rfl z_true (fun _ _ _ => trivial)) rfl rfl hl.1 rfl (lv_room (Nat.le_of_ble_eq_true rfl)) dCE_takes_10 ⟨Nat.le_of_ble_eq_true rfl, Nat.le_of_ble_eq_true rfl⟩) (fun r3 h_r3 => ?_)
    have h_r3 : r3 = nI (f0 + f2) := h_r3
    subst h_r3
    have t4 := nI_toInt (n := f0 + f2) (by omega)
    refine lv_icmp_ge (tgt := 36) hx hb dCE_takes_13 rfl (fun h5 => ?_) (fun h5 => ?_)
    · have h5 := z_le h5
      refine lv_iconst (v := nI 0) hx hb dCE_takes_36 (by decide) ?_
      subst hQ
      exact zp_zret hx hb hr hlocks (Or.inl rfl) (z_tk0 (by omega)) dCE_takes_37
    · have h5 := z_nle h5
      refine lv_aload_n hx hb dCE_takes_16 rfl (lv_at hl 0 rfl) ?_
      refine va_get (D := (dC, dI)) (ci := 7) (v := .int (nI f1)) (C := RCE) (T := TCE) (N := 10) hx hb hz in_CE hown hK hP 0 rfl rfl 1 (by decide) (hz _ wd_255) (fun _ h9 => h9) rfl dCE_takes_17 ?_
      refine lv_iload_n hx hb dCE_takes_20 rfl (lv_at hl 2 rfl) ?_
      have t6 := nI_toInt (n := f1) (by omega)
      refine lv_icmp_gt (tgt := 36) hx hb dCE_takes_21 rfl (fun h7 => ?_) (fun h7 => ?_)
      · have h7 := z_lt h7
        refine lv_iconst (v := nI 0) hx hb dCE_takes_36 (by decide) ?_
        subst hQ
        exact zp_zret hx hb hr hlocks (Or.inl rfl) (z_tk0 (by omega)) dCE_takes_37
      · have h7 := z_nlt h7
        refine lv_iload_n hx hb dCE_takes_24 rfl (lv_at hl 2 rfl) ?_
        refine lv_aload_n hx hb dCE_takes_25 rfl (lv_at hl 0 rfl) ?_
        refine vp_callSi (W.runV (As := []) (rest := [.int y]) ⟨hx, hb, hml, hown, hz⟩ (f_CE_bottom l dC dI a f0 f1 f2 f3 f4 f5 f6 f7 f8 f9 ) (cwV 0 hz (z_gV wd_242 wd_243 wd_244 wd_41 wd_245) rfl rfl rfl (by decide +kernel) ⟨Nat.le_of_ble_eq_true rfl, Nat.le_of_ble_eq_true rfl⟩) (zr_preV hK (hP.sub [0] rfl) (va_recv (q0 := 0) hK hP (q := (RCE, TCE, 10)) rfl rfl) [] rfl z_true (fun _ _ _ => trivial)) rfl rfl hl.1 rfl (lv_room (Nat.le_of_ble_eq_true rfl)) dCE_takes_26 ⟨Nat.le_of_ble_eq_true rfl, Nat.le_of_ble_eq_true rfl⟩) (fun r8 h_r8 => ?_)
        have h_r8 : r8 = nI (f1 + f7) := h_r8
        subst h_r8
        have t9 := nI_toInt (n := f1 + f7) (by omega)
        refine lv_icmp_ge (tgt := 36) hx hb dCE_takes_29 rfl (fun h10 => ?_) (fun h10 => ?_)
        · have h10 := z_le h10
          refine lv_iconst (v := nI 0) hx hb dCE_takes_36 (by decide) ?_
          subst hQ
          exact zp_zret hx hb hr hlocks (Or.inl rfl) (z_tk0 (by omega)) dCE_takes_37
        · have h10 := z_nle h10
          refine lv_iconst (v := nI 1) hx hb dCE_takes_32 (by decide) ?_
          refine lv_goto (tgt := 37) hx hb dCE_takes_33 rfl ?_
          subst hQ
          exact zp_zret hx hb hr hlocks (Or.inr rfl) (z_tk1 (by omega)) dCE_takes_37

set_option maxHeartbeats 4000000 in
set_option maxRecDepth 100000 in
theorem f_SC_within (l : Launch) (dC : Nat → ClassId) (dI : Nat → Nat → Nat) (v : Int32) (lo : Int32) (hi : Int32) : zp_M l ySC_within wSC_within ({ frames := 0, cells := 0, slots := 0, locals := 0 }) [.int v, .int lo, .int hi] (dC, dI) vwCl [] [] (fun _ => True) (fun r => z_yn r (lo.toInt ≤ v.toInt ∧ v.toInt ≤ hi.toInt)) := by
  refine zp_head (cc := cSC_within) (maxL := 3) (ret := (some .boolean)) (by decide +kernel) rfl (Nat.le_of_ble_eq_true rfl) ?_
  intro p e s m below meth c ls F hP hK hX hl
  obtain ⟨hx, hb, hml, hr, hlocks, hown, hts⟩ := F
  have hown : s.vm.findClass "SpannedCells" = some m.cls := hown
  have hz : ∀ w9 ∈ zT, w9.before [.int v, .int lo, .int hi].toArray s = true := fun w9 h => hts w9 (List.mem_cons_of_mem _ h)
  have hl : lv_has ls 3 [(0, .int v), (1, .int lo), (2, .int hi)] := hl
  refine z_q (fun Q hQ => ?_)
  refine lv_iload_n hx hb dSC_within_0 rfl (lv_at hl 1 rfl) ?_
  refine lv_iload_n hx hb dSC_within_1 rfl (lv_at hl 0 rfl) ?_
  refine lv_icmp_gt (tgt := 14) hx hb dSC_within_2 rfl (fun h1 => ?_) (fun h1 => ?_)
  · have h1 := z_lt h1
    refine lv_iconst (v := nI 0) hx hb dSC_within_14 (by decide) ?_
    subst hQ
    exact zp_zret hx hb hr hlocks (Or.inl rfl) (z_y0 (by omega)) dSC_within_15
  · have h1 := z_nlt h1
    refine lv_iload_n hx hb dSC_within_5 rfl (lv_at hl 0 rfl) ?_
    refine lv_iload_n hx hb dSC_within_6 rfl (lv_at hl 2 rfl) ?_
    refine lv_icmp_gt (tgt := 14) hx hb dSC_within_7 rfl (fun h2 => ?_) (fun h2 => ?_)
    · have h2 := z_lt h2
      refine lv_iconst (v := nI 0) hx hb dSC_within_14 (by decide) ?_
      subst hQ
      exact zp_zret hx hb hr hlocks (Or.inl rfl) (z_y0 (by omega)) dSC_within_15
    · have h2 := z_nlt h2
      refine lv_iconst (v := nI 1) hx hb dSC_within_10 (by decide) ?_
      refine lv_goto (tgt := 15) hx hb dSC_within_11 rfl ?_
      subst hQ
      exact zp_zret hx hb hr hlocks (Or.inr rfl) (z_y1 (by omega)) dSC_within_15

set_option maxHeartbeats 4000000 in
set_option maxRecDepth 100000 in
theorem f_PR_checkIndex (l : Launch) (dC : Nat → ClassId) (dI : Nat → Nat → Nat) (k : Nat) (n : Nat) (hk : k < n) (hn : n < 2147483648) : zp_M l yPR_checkIndex wPR_checkIndex ({ frames := 0, cells := 0, slots := 0, locals := 0 }) [.int (nI k), .int (nI n), .null] (dC, dI) vwCl [] [] (fun _ => True) (fun r => r = nI k) := by
  refine zp_head (cc := cPR_checkIndex) (maxL := 3) (ret := (some .int)) (by decide +kernel) rfl (Nat.le_of_ble_eq_true rfl) ?_
  intro p e s m below meth c ls F hP hK hX hl
  obtain ⟨hx, hb, hml, hr, hlocks, hown, hts⟩ := F
  have hown : s.vm.findClass "jdk/internal/util/Preconditions" = some m.cls := hown
  have hz : ∀ w9 ∈ zT, w9.before [.int (nI k), .int (nI n), .null].toArray s = true := fun w9 h => hts w9 (List.mem_cons_of_mem _ h)
  have hl : lv_has ls 3 [(0, .int (nI k)), (1, .int (nI n)), (2, .null)] := hl
  refine z_q (fun Q hQ => ?_)
  refine lv_iload_n hx hb dPR_checkIndex_0 rfl (lv_at hl 0 rfl) ?_
  have t1 := nI_toInt (n := k) (by omega)
  have t2 : (0 : Int32).toInt = 0 := by decide
  refine lv_if_lt (tgt := 9) hx hb dPR_checkIndex_1 rfl (fun h => by have h := z_lt h; omega) (fun _ => ?_)
  refine lv_iload_n hx hb dPR_checkIndex_4 rfl (lv_at hl 0 rfl) ?_
  refine lv_iload_n hx hb dPR_checkIndex_5 rfl (lv_at hl 1 rfl) ?_
  have t3 := nI_toInt (n := k) (by omega)
  have t4 := nI_toInt (n := n) (by omega)
  refine lv_icmp_lt (tgt := 16) hx hb dPR_checkIndex_6 rfl (fun _ => ?_) (fun h => by have h := z_nlt h; omega)
  refine lv_iload_n hx hb dPR_checkIndex_16 rfl (lv_at hl 0 rfl) ?_
  subst hQ
  exact zp_iret hx hb hr hlocks (rfl) dPR_checkIndex_17

set_option maxHeartbeats 4000000 in
set_option maxRecDepth 100000 in
theorem f_OS_checkIndex (l : Launch) (dC : Nat → ClassId) (dI : Nat → Nat → Nat) (k : Nat) (n : Nat) (hk : k < n) (hn : n < 2147483648) : zp_M l yOS_checkIndex wOS_checkIndex ({ frames := 1, cells := 0, slots := 0, locals := 22 }) [.int (nI k), .int (nI n)] (dC, dI) vwCl [] [] (fun _ => True) (fun r => r = nI k) := by
  refine zp_head (cc := cOS_checkIndex) (maxL := 2) (ret := (some .int)) (by decide +kernel) rfl (Nat.le_of_ble_eq_true rfl) ?_
  intro p e s m below meth c ls F hP hK hX hl
  obtain ⟨hx, hb, hml, hr, hlocks, hown, hts⟩ := F
  have hown : s.vm.findClass "java/util/Objects" = some m.cls := hown
  have hz : ∀ w9 ∈ zT, w9.before [.int (nI k), .int (nI n)].toArray s = true := fun w9 h => hts w9 (List.mem_cons_of_mem _ h)
  have hl : lv_has ls 2 [(0, .int (nI k)), (1, .int (nI n))] := hl
  refine z_q (fun Q hQ => ?_)
  refine lv_iload_n hx hb dOS_checkIndex_0 rfl (lv_at hl 0 rfl) ?_
  refine lv_iload_n hx hb dOS_checkIndex_1 rfl (lv_at hl 1 rfl) ?_
  refine lv_null hx hb dOS_checkIndex_2 ?_
  refine vp_callSi (W.runS (As := [.int (nI k), .int (nI n), .null]) (rest := []) ⟨hx, hb, hml, hown, hz⟩ (f_PR_checkIndex l dC dI k n (by omega) (by omega)) (va_cwS 3 hz (z_gS wd_203 wd_204 wd_40 wd_205) rfl rfl rfl (by decide +kernel) ⟨Nat.le_of_ble_eq_true rfl, Nat.le_of_ble_eq_true rfl⟩) (zr_preS hK (hP.sub [] rfl) [] rfl z_true (fun _ _ _ => trivial)) rfl rfl hl.1 rfl (lv_room (Nat.le_of_ble_eq_true rfl)) dOS_checkIndex_3 ⟨Nat.le_of_ble_eq_true rfl, Nat.le_of_ble_eq_true rfl⟩) (fun r1 h_r1 => ?_)
  have h_r1 : r1 = nI k := h_r1
  subst h_r1
  subst hQ
  exact zp_iret hx hb hr hlocks (rfl) dOS_checkIndex_6

set_option maxHeartbeats 4000000 in
set_option maxRecDepth 100000 in
theorem f_AL_size (l : Launch) (dC : Nat → ClassId) (dI : Nat → Nat → Nat) (al : Nat) (ed : Nat) (mo : Int32) (n : Nat) : zp_M l yAL_size wAL_size ({ frames := 0, cells := 0, slots := 0, locals := 0 }) [.ref al] (dC, dI) vwCl [(al, .inr (2, [.ref ed, .int (nI n), .int mo]))] [] (fun _ => True) (fun r => r = nI n) := by
  refine zp_head (cc := cAL_size) (maxL := 1) (ret := (some .int)) (by decide +kernel) rfl (Nat.le_of_ble_eq_true rfl) ?_
  intro p e s m below meth c ls F hP hK hX hl
  obtain ⟨hx, hb, hml, hr, hlocks, hown, hts⟩ := F
  have hown : s.vm.findClass "java/util/ArrayList" = some m.cls := hown
  have hz : ∀ w9 ∈ zT, w9.before [.ref al].toArray s = true := fun w9 h => hts w9 (List.mem_cons_of_mem _ h)
  have hl : lv_has ls 1 [(0, .ref al)] := hl
  refine z_q (fun Q hQ => ?_)
  refine lv_aload_n hx hb dAL_size_0 rfl (lv_at hl 0 rfl) ?_
  refine va_get (D := (dC, dI)) (ci := 2) (v := .int (nI n)) (C := RAL) (T := TAL) (N := 3) hx hb hz in_AL hown hK hP 0 rfl rfl 1 (by decide) (hz _ wd_74) (fun _ h9 => h9) rfl dAL_size_1 ?_
  subst hQ
  exact zp_iret hx hb hr hlocks (rfl) dAL_size_4

set_option maxHeartbeats 4000000 in
set_option maxRecDepth 100000 in
theorem f_AL_elementData (l : Launch) (dC : Nat → ClassId) (dI : Nat → Nat → Nat) (al : Nat) (ed : Nat) (cE : ClassId) (cap : Nat) (a : Nat → Option Nat) (mo : Int32) (n : Nat) (k : Nat) (x : Nat) (hk : k < n) (hn : n ≤ cap) (hc : cap < 2147483648) (ha : a k = some x) : zp_Mr l yAL_elementData wAL_elementData ({ frames := 0, cells := 0, slots := 0, locals := 0 }) [.ref al, .int (nI k)] (dC, dI) vwCl [(al, .inr (2, [.ref ed, .int (nI n), .int mo])), (ed, .inl (cE, cap, .inr (.inr (.inr (.inr a)))))] [(cE, .object "java/lang/Object")] (fun _ => True) (fun a => a = x) := by
  refine zp_headr (cc := cAL_elementData) (maxL := 2) (ret := (some (.object "java/lang/Object"))) (by decide +kernel) rfl (Nat.le_of_ble_eq_true rfl) ?_
  intro p e s m below meth c ls F hP hK hX hl
  obtain ⟨hx, hb, hml, hr, hlocks, hown, hts⟩ := F
  have hown : s.vm.findClass "java/util/ArrayList" = some m.cls := hown
  have hz : ∀ w9 ∈ zT, w9.before [.ref al, .int (nI k)].toArray s = true := fun w9 h => hts w9 (List.mem_cons_of_mem _ h)
  have hl : lv_has ls 2 [(0, .ref al), (1, .int (nI k))] := hl
  refine z_q (fun Q hQ => ?_)
  refine lv_aload_n hx hb dAL_elementData_0 rfl (lv_at hl 0 rfl) ?_
  refine va_get (D := (dC, dI)) (ci := 2) (v := .ref ed) (C := RAL) (T := TAL) (N := 3) hx hb hz in_AL hown hK hP 0 rfl rfl 0 (by decide) (hz _ wd_73) (fun _ h9 => h9) rfl dAL_elementData_1 ?_
  refine lv_iload_n hx hb dAL_elementData_4 rfl (lv_at hl 1 rfl) ?_
  refine va_aldq hx hb hK hP 1 0 rfl rfl (vp_in_nI (by omega) (by omega)) dAL_elementData_5 ?_
  refine W.eq (g2 := F0 m 6 ls [.ref x]) (by rw [nI_clamp (by omega), ha]; rfl) ?_
  subst hQ
  exact zp_aret hx hb hr (Or.inl ⟨_, rfl⟩) hlocks (rfl) dAL_elementData_6

set_option maxHeartbeats 4000000 in
set_option maxRecDepth 100000 in
theorem f_AL_get (l : Launch) (dC : Nat → ClassId) (dI : Nat → Nat → Nat) (al : Nat) (ed : Nat) (cE : ClassId) (cap : Nat) (a : Nat → Option Nat) (mo : Int32) (n : Nat) (k : Nat) (x : Nat) (hk : k < n) (hn : n ≤ cap) (hc : cap < 2147483648) (ha : a k = some x) : zp_Mr l yAL_get wAL_get ({ frames := 2, cells := 0, slots := 0, locals := 43 }) [.ref al, .int (nI k)] (dC, dI) vwCl [(al, .inr (2, [.ref ed, .int (nI n), .int mo])), (ed, .inl (cE, cap, .inr (.inr (.inr (.inr a)))))] [(cE, .object "java/lang/Object")] (fun _ => True) (fun a => a = x) := by
  refine zp_headr (cc := cAL_get) (maxL := 2) (ret := (some (.object "java/lang/Object"))) (by decide +kernel) rfl (Nat.le_of_ble_eq_true rfl) ?_
  intro p e s m below meth c ls F hP hK hX hl
  obtain ⟨hx, hb, hml, hr, hlocks, hown, hts⟩ := F
  have hown : s.vm.findClass "java/util/ArrayList" = some m.cls := hown
  have hz : ∀ w9 ∈ zT, w9.before [.ref al, .int (nI k)].toArray s = true := fun w9 h => hts w9 (List.mem_cons_of_mem _ h)
  have hl : lv_has ls 2 [(0, .ref al), (1, .int (nI k))] := hl
  refine z_q (fun Q hQ => ?_)
  refine lv_iload_n hx hb dAL_get_0 rfl (lv_at hl 1 rfl) ?_
  refine lv_aload_n hx hb dAL_get_1 rfl (lv_at hl 0 rfl) ?_
  refine va_get (D := (dC, dI)) (ci := 2) (v := .int (nI n)) (C := RAL) (T := TAL) (N := 3) hx hb hz in_AL hown hK hP 0 rfl rfl 1 (by decide) (hz _ wd_74) (fun _ h9 => h9) rfl dAL_get_2 ?_
  refine vp_callSi (W.runS (As := [.int (nI k), .int (nI n)]) (rest := []) ⟨hx, hb, hml, hown, hz⟩ (f_OS_checkIndex l dC dI k n (by omega) (by omega)) (va_cwS 2 hz (z_gS wd_200 wd_201 wd_39 wd_202) rfl rfl rfl (by decide +kernel) ⟨Nat.le_of_ble_eq_true rfl, Nat.le_of_ble_eq_true rfl⟩) (zr_preS hK (hP.sub [] rfl) [] rfl z_true (fun _ _ _ => trivial)) rfl rfl hl.1 rfl (lv_room (Nat.le_of_ble_eq_true rfl)) dAL_get_5 ⟨Nat.le_of_ble_eq_true rfl, Nat.le_of_ble_eq_true rfl⟩) (fun r1 h_r1 => ?_)
  have h_r1 : r1 = nI k := h_r1
  subst h_r1
  refine lv_pop hx hb dAL_get_8 rfl ?_
  refine lv_aload_n hx hb dAL_get_9 rfl (lv_at hl 0 rfl) ?_
  refine lv_iload_n hx hb dAL_get_10 rfl (lv_at hl 1 rfl) ?_
  refine va_csr (W.runV (As := [.int (nI k)]) (rest := []) ⟨hx, hb, hml, hown, hz⟩ (f_AL_elementData l dC dI al ed cE cap a mo n k x (by omega) (by omega) (by omega) (ha)) (cwV 1 hz (z_gV wd_206 wd_207 wd_208 wd_33 wd_209) rfl rfl rfl (by decide +kernel) ⟨Nat.le_of_ble_eq_true rfl, Nat.le_of_ble_eq_true rfl⟩) (zr_preV hK (hP.sub [0, 1] rfl) (va_recv (q0 := 0) hK hP (q := (RAL, TAL, 3)) rfl rfl) [0] rfl z_true (fun _ _ _ => trivial)) rfl rfl hl.1 rfl (lv_room (Nat.le_of_ble_eq_true rfl)) dAL_get_11 ⟨Nat.le_of_ble_eq_true rfl, Nat.le_of_ble_eq_true rfl⟩) (fun r2 h_r2 => ?_)
  have h_r2 : r2 = x := h_r2
  subst h_r2
  subst hQ
  exact zp_aret hx hb hr (Or.inl ⟨_, rfl⟩) hlocks (rfl) dAL_get_14
end
section
set_option maxHeartbeats 4000000 in
set_option maxRecDepth 100000 in
theorem f_GR_cellAt (l : Launch) (dC : Nat → ClassId) (dI : Nat → Nat → Nat) (g : Nat) (gr : Nat) (gs : Nat) (bg : Nat) (re : Nat) (ce : Nat) (al : Nat) (ed : Nat) (cE : ClassId) (cap : Nat) (a : Nat → Option Nat) (mo : Int32) (n : Nat) (ad : Nat → Nat) (d : Nat → Nat → Nat) (k : Nat) (hn : n ≤ cap) (hc : cap < 2147483648) (ha : ∀ k, k < n → a k = some (ad k)) (hd : ∀ j k, k < n → d j k ≤ 1000) (hg : gr ≤ 1000 ∧ gs ≤ 1000 ∧ bg ≤ 1000 ∧ re ≤ 1000 ∧ ce ≤ 1000) (hk : k < n) : zp_Mr l yGR_cellAt wGR_cellAt ({ frames := 3, cells := 0, slots := 0, locals := 64 }) [.ref g, .int (nI k)] (dC, dI) vwCl ([(g, .inr (1, [.ref al, .int (nI gr), .int (nI gs), .int (nI bg), .int (nI re), .int (nI ce)])), (al, .inr (2, [.ref ed, .int (nI n), .int mo])), (ed, .inl (cE, cap, .inr (.inr (.inr (.inr a)))))] ++ zcs n ad (zcf d)) [(cE, .object "java/lang/Object")] (fun _ => True) (fun a => a = ad k) := by
  refine zp_headr (cc := cGR_cellAt) (maxL := 2) (ret := (some (.object "SpannedCells$Cell"))) (by decide +kernel) rfl (Nat.le_of_ble_eq_true rfl) ?_
  intro p e s m below meth c ls F hP hK hX hl
  obtain ⟨hx, hb, hml, hr, hlocks, hown, hts⟩ := F
  have hown : s.vm.findClass "SpannedCells$Grid" = some m.cls := hown
  have hz : ∀ w9 ∈ zT, w9.before [.ref g, .int (nI k)].toArray s = true := fun w9 h => hts w9 (List.mem_cons_of_mem _ h)
  have hl : lv_has ls 2 [(0, .ref g), (1, .int (nI k))] := hl
  refine z_q (fun Q hQ => ?_)
  refine lv_aload_n hx hb dGR_cellAt_0 rfl (lv_at hl 0 rfl) ?_
  refine va_get (D := (dC, dI)) (ci := 1) (v := .ref al) (C := RGR) (T := TGR) (N := 6) hx hb hz in_GR hown hK hP 0 rfl rfl 0 (by decide) (hz _ wd_85) (fun _ h9 => h9) rfl dGR_cellAt_1 ?_
  refine lv_iload_n hx hb dGR_cellAt_4 rfl (lv_at hl 1 rfl) ?_
  refine va_csr (W.runV (As := [.int (nI k)]) (rest := []) ⟨hx, hb, hml, hown, hz⟩ (f_AL_get l dC dI al ed cE cap a mo n k (ad k) (by omega) (by omega) (by omega) (ha _ (by omega))) (cwV 1 hz (z_gV wd_196 wd_197 wd_198 wd_33 wd_199) rfl rfl rfl (by decide +kernel) ⟨Nat.le_of_ble_eq_true rfl, Nat.le_of_ble_eq_true rfl⟩) (zr_preV hK (hP.sub [1, 2] rfl) (va_recv (q0 := 1) hK hP (q := (RAL, TAL, 3)) rfl rfl) [0] rfl z_true (fun _ _ _ => trivial)) rfl rfl hl.1 rfl (lv_room (Nat.le_of_ble_eq_true rfl)) dGR_cellAt_5 ⟨Nat.le_of_ble_eq_true rfl, Nat.le_of_ble_eq_true rfl⟩) (fun r1 h_r1 => ?_)
  have h_r1 : r1 = (ad k) := h_r1
  subst h_r1
  refine va_castE hx hb hown (hz _ wd_210) (va_recv hK hP (q := (RCE, TCE, 10)) rfl (zcs_get rfl (by omega))) dGR_cellAt_8 ?_
  subst hQ
  exact zp_aret hx hb hr (Or.inl ⟨_, rfl⟩) hlocks (rfl) dGR_cellAt_11

set_option maxHeartbeats 4000000 in
set_option maxRecDepth 100000 in
theorem f_GR_cellCount (l : Launch) (dC : Nat → ClassId) (dI : Nat → Nat → Nat) (g : Nat) (gr : Nat) (gs : Nat) (bg : Nat) (re : Nat) (ce : Nat) (al : Nat) (ed : Nat) (cE : ClassId) (cap : Nat) (a : Nat → Option Nat) (mo : Int32) (n : Nat) (ad : Nat → Nat) (d : Nat → Nat → Nat) (hn : n ≤ cap) (hc : cap < 2147483648) (ha : ∀ k, k < n → a k = some (ad k)) (hd : ∀ j k, k < n → d j k ≤ 1000) (hg : gr ≤ 1000 ∧ gs ≤ 1000 ∧ bg ≤ 1000 ∧ re ≤ 1000 ∧ ce ≤ 1000) : zp_M l yGR_cellCount wGR_cellCount ({ frames := 1, cells := 0, slots := 0, locals := 20 }) [.ref g] (dC, dI) vwCl ([(g, .inr (1, [.ref al, .int (nI gr), .int (nI gs), .int (nI bg), .int (nI re), .int (nI ce)])), (al, .inr (2, [.ref ed, .int (nI n), .int mo])), (ed, .inl (cE, cap, .inr (.inr (.inr (.inr a)))))] ++ zcs n ad (zcf d)) [(cE, .object "java/lang/Object")] (fun _ => True) (fun r => r = nI n) := by
  refine zp_head (cc := cGR_cellCount) (maxL := 1) (ret := (some .int)) (by decide +kernel) rfl (Nat.le_of_ble_eq_true rfl) ?_
  intro p e s m below meth c ls F hP hK hX hl
  obtain ⟨hx, hb, hml, hr, hlocks, hown, hts⟩ := F
  have hown : s.vm.findClass "SpannedCells$Grid" = some m.cls := hown
  have hz : ∀ w9 ∈ zT, w9.before [.ref g].toArray s = true := fun w9 h => hts w9 (List.mem_cons_of_mem _ h)
  have hl : lv_has ls 1 [(0, .ref g)] := hl
  refine z_q (fun Q hQ => ?_)
  refine lv_aload_n hx hb dGR_cellCount_0 rfl (lv_at hl 0 rfl) ?_
  refine va_get (D := (dC, dI)) (ci := 1) (v := .ref al) (C := RGR) (T := TGR) (N := 6) hx hb hz in_GR hown hK hP 0 rfl rfl 0 (by decide) (hz _ wd_85) (fun _ h9 => h9) rfl dGR_cellCount_1 ?_
  refine vp_callSi (W.runV (As := []) (rest := []) ⟨hx, hb, hml, hown, hz⟩ (f_AL_size l dC dI al ed mo n ) (cwV 0 hz (z_gV wd_192 wd_193 wd_194 wd_33 wd_195) rfl rfl rfl (by decide +kernel) ⟨Nat.le_of_ble_eq_true rfl, Nat.le_of_ble_eq_true rfl⟩) (zr_preV hK (hP.sub [1] rfl) (va_recv (q0 := 1) hK hP (q := (RAL, TAL, 3)) rfl rfl) [] rfl z_true (fun _ _ _ => trivial)) rfl rfl hl.1 rfl (lv_room (Nat.le_of_ble_eq_true rfl)) dGR_cellCount_4 ⟨Nat.le_of_ble_eq_true rfl, Nat.le_of_ble_eq_true rfl⟩) (fun r1 h_r1 => ?_)
  have h_r1 : r1 = nI n := h_r1
  subst h_r1
  subst hQ
  exact zp_iret hx hb hr hlocks (rfl) dGR_cellCount_7

set_option maxHeartbeats 4000000 in
set_option maxRecDepth 100000 in
theorem f_GR_columnCount (l : Launch) (dC : Nat → ClassId) (dI : Nat → Nat → Nat) (g : Nat) (gr : Nat) (gs : Nat) (bg : Nat) (re : Nat) (ce : Nat) (al : Nat) (ed : Nat) (cE : ClassId) (cap : Nat) (a : Nat → Option Nat) (mo : Int32) (n : Nat) (ad : Nat → Nat) (d : Nat → Nat → Nat) (hn : n ≤ cap) (hc : cap < 2147483648) (ha : ∀ k, k < n → a k = some (ad k)) (hd : ∀ j k, k < n → d j k ≤ 1000) (hg : gr ≤ 1000 ∧ gs ≤ 1000 ∧ bg ≤ 1000 ∧ re ≤ 1000 ∧ ce ≤ 1000) : zp_M l yGR_columnCount wGR_columnCount ({ frames := 0, cells := 0, slots := 0, locals := 0 }) [.ref g] (dC, dI) vwCl ([(g, .inr (1, [.ref al, .int (nI gr), .int (nI gs), .int (nI bg), .int (nI re), .int (nI ce)])), (al, .inr (2, [.ref ed, .int (nI n), .int mo])), (ed, .inl (cE, cap, .inr (.inr (.inr (.inr a)))))] ++ zcs n ad (zcf d)) [(cE, .object "java/lang/Object")] (fun _ => True) (fun r => r = nI ce) := by
  refine zp_head (cc := cGR_columnCount) (maxL := 1) (ret := (some .int)) (by decide +kernel) rfl (Nat.le_of_ble_eq_true rfl) ?_
  intro p e s m below meth c ls F hP hK hX hl
  obtain ⟨hx, hb, hml, hr, hlocks, hown, hts⟩ := F
  have hown : s.vm.findClass "SpannedCells$Grid" = some m.cls := hown
  have hz : ∀ w9 ∈ zT, w9.before [.ref g].toArray s = true := fun w9 h => hts w9 (List.mem_cons_of_mem _ h)
  have hl : lv_has ls 1 [(0, .ref g)] := hl
  refine z_q (fun Q hQ => ?_)
  refine lv_aload_n hx hb dGR_columnCount_0 rfl (lv_at hl 0 rfl) ?_
  refine va_get (D := (dC, dI)) (ci := 1) (v := .int (nI ce)) (C := RGR) (T := TGR) (N := 6) hx hb hz in_GR hown hK hP 0 rfl rfl 5 (by decide) (hz _ wd_90) (fun _ h9 => h9) rfl dGR_columnCount_1 ?_
  subst hQ
  exact zp_iret hx hb hr hlocks (rfl) dGR_columnCount_4

set_option maxHeartbeats 4000000 in
set_option maxRecDepth 100000 in
theorem f_GR_rowCount (l : Launch) (dC : Nat → ClassId) (dI : Nat → Nat → Nat) (g : Nat) (gr : Nat) (gs : Nat) (bg : Nat) (re : Nat) (ce : Nat) (al : Nat) (ed : Nat) (cE : ClassId) (cap : Nat) (a : Nat → Option Nat) (mo : Int32) (n : Nat) (ad : Nat → Nat) (d : Nat → Nat → Nat) (hn : n ≤ cap) (hc : cap < 2147483648) (ha : ∀ k, k < n → a k = some (ad k)) (hd : ∀ j k, k < n → d j k ≤ 1000) (hg : gr ≤ 1000 ∧ gs ≤ 1000 ∧ bg ≤ 1000 ∧ re ≤ 1000 ∧ ce ≤ 1000) : zp_M l yGR_rowCount wGR_rowCount ({ frames := 0, cells := 0, slots := 0, locals := 0 }) [.ref g] (dC, dI) vwCl ([(g, .inr (1, [.ref al, .int (nI gr), .int (nI gs), .int (nI bg), .int (nI re), .int (nI ce)])), (al, .inr (2, [.ref ed, .int (nI n), .int mo])), (ed, .inl (cE, cap, .inr (.inr (.inr (.inr a)))))] ++ zcs n ad (zcf d)) [(cE, .object "java/lang/Object")] (fun _ => True) (fun r => r = nI re) := by
  refine zp_head (cc := cGR_rowCount) (maxL := 1) (ret := (some .int)) (by decide +kernel) rfl (Nat.le_of_ble_eq_true rfl) ?_
  intro p e s m below meth c ls F hP hK hX hl
  obtain ⟨hx, hb, hml, hr, hlocks, hown, hts⟩ := F
  have hown : s.vm.findClass "SpannedCells$Grid" = some m.cls := hown
  have hz : ∀ w9 ∈ zT, w9.before [.ref g].toArray s = true := fun w9 h => hts w9 (List.mem_cons_of_mem _ h)
  have hl : lv_has ls 1 [(0, .ref g)] := hl
  refine z_q (fun Q hQ => ?_)
  refine lv_aload_n hx hb dGR_rowCount_0 rfl (lv_at hl 0 rfl) ?_
  refine va_get (D := (dC, dI)) (ci := 1) (v := .int (nI re)) (C := RGR) (T := TGR) (N := 6) hx hb hz in_GR hown hK hP 0 rfl rfl 4 (by decide) (hz _ wd_89) (fun _ h9 => h9) rfl dGR_rowCount_1 ?_
  subst hQ
  exact zp_iret hx hb hr hlocks (rfl) dGR_rowCount_4

set_option maxHeartbeats 4000000 in
set_option maxRecDepth 100000 in
theorem f_GR_hasCell (l : Launch) (dC : Nat → ClassId) (dI : Nat → Nat → Nat) (g : Nat) (gr : Nat) (gs : Nat) (bg : Nat) (re : Nat) (ce : Nat) (al : Nat) (ed : Nat) (cE : ClassId) (cap : Nat) (a : Nat → Option Nat) (mo : Int32) (n : Nat) (ad : Nat → Nat) (d : Nat → Nat → Nat) (k : Int32) (hn : n ≤ cap) (hc : cap < 2147483648) (ha : ∀ k, k < n → a k = some (ad k)) (hd : ∀ j k, k < n → d j k ≤ 1000) (hg : gr ≤ 1000 ∧ gs ≤ 1000 ∧ bg ≤ 1000 ∧ re ≤ 1000 ∧ ce ≤ 1000) : zp_M l yGR_hasCell wGR_hasCell ({ frames := 1, cells := 0, slots := 0, locals := 20 }) [.ref g, .int k] (dC, dI) vwCl ([(g, .inr (1, [.ref al, .int (nI gr), .int (nI gs), .int (nI bg), .int (nI re), .int (nI ce)])), (al, .inr (2, [.ref ed, .int (nI n), .int mo])), (ed, .inl (cE, cap, .inr (.inr (.inr (.inr a)))))] ++ zcs n ad (zcf d)) [(cE, .object "java/lang/Object")] (fun _ => True) (fun r => z_yn r (0 ≤ k.toInt ∧ k.toInt < n)) := by
  refine zp_head (cc := cGR_hasCell) (maxL := 2) (ret := (some .boolean)) (by decide +kernel) rfl (Nat.le_of_ble_eq_true rfl) ?_
  intro p e s m below meth c ls F hP hK hX hl
  obtain ⟨hx, hb, hml, hr, hlocks, hown, hts⟩ := F
  have hown : s.vm.findClass "SpannedCells$Grid" = some m.cls := hown
  have hz : ∀ w9 ∈ zT, w9.before [.ref g, .int k].toArray s = true := fun w9 h => hts w9 (List.mem_cons_of_mem _ h)
  have hl : lv_has ls 2 [(0, .ref g), (1, .int k)] := hl
  refine z_q (fun Q hQ => ?_)
  refine lv_iconst (v := nI 0) hx hb dGR_hasCell_0 (by decide) ?_
  refine lv_iload_n hx hb dGR_hasCell_1 rfl (lv_at hl 1 rfl) ?_
  have t1 := nI_toInt (n := 0) (by omega)
  refine lv_icmp_gt (tgt := 20) hx hb dGR_hasCell_2 rfl (fun h2 => ?_) (fun h2 => ?_)
  · have h2 := z_lt h2
    refine lv_iconst (v := nI 0) hx hb dGR_hasCell_20 (by decide) ?_
    subst hQ
    exact zp_zret hx hb hr hlocks (Or.inl rfl) (z_y0 (by omega)) dGR_hasCell_21
  · have h2 := z_nlt h2
    refine lv_iload_n hx hb dGR_hasCell_5 rfl (lv_at hl 1 rfl) ?_
    refine lv_aload_n hx hb dGR_hasCell_6 rfl (lv_at hl 0 rfl) ?_
    refine va_get (D := (dC, dI)) (ci := 1) (v := .ref al) (C := RGR) (T := TGR) (N := 6) hx hb hz in_GR hown hK hP 0 rfl rfl 0 (by decide) (hz _ wd_85) (fun _ h9 => h9) rfl dGR_hasCell_7 ?_
    refine vp_callSi (W.runV (As := []) (rest := [.int k]) ⟨hx, hb, hml, hown, hz⟩ (f_AL_size l dC dI al ed mo n ) (cwV 0 hz (z_gV wd_192 wd_193 wd_194 wd_33 wd_195) rfl rfl rfl (by decide +kernel) ⟨Nat.le_of_ble_eq_true rfl, Nat.le_of_ble_eq_true rfl⟩) (zr_preV hK (hP.sub [1] rfl) (va_recv (q0 := 1) hK hP (q := (RAL, TAL, 3)) rfl rfl) [] rfl z_true (fun _ _ _ => trivial)) rfl rfl hl.1 rfl (lv_room (Nat.le_of_ble_eq_true rfl)) dGR_hasCell_10 ⟨Nat.le_of_ble_eq_true rfl, Nat.le_of_ble_eq_true rfl⟩) (fun r3 h_r3 => ?_)
    have h_r3 : r3 = nI n := h_r3
    subst h_r3
    have t4 := nI_toInt (n := n) (by omega)
    refine lv_icmp_ge (tgt := 20) hx hb dGR_hasCell_13 rfl (fun h5 => ?_) (fun h5 => ?_)
    · have h5 := z_le h5
      refine lv_iconst (v := nI 0) hx hb dGR_hasCell_20 (by decide) ?_
      subst hQ
      exact zp_zret hx hb hr hlocks (Or.inl rfl) (z_y0 (by omega)) dGR_hasCell_21
    · have h5 := z_nle h5
      refine lv_iconst (v := nI 1) hx hb dGR_hasCell_16 (by decide) ?_
      refine lv_goto (tgt := 21) hx hb dGR_hasCell_17 rfl ?_
      subst hQ
      exact zp_zret hx hb hr hlocks (Or.inr rfl) (z_y1 (by omega)) dGR_hasCell_21

set_option maxHeartbeats 4000000 in
set_option maxRecDepth 100000 in
theorem f_GR_ownerOf (l : Launch) (dC : Nat → ClassId) (dI : Nat → Nat → Nat) (g : Nat) (gr : Nat) (gs : Nat) (bg : Nat) (re : Nat) (ce : Nat) (al : Nat) (ed : Nat) (cE : ClassId) (cap : Nat) (a : Nat → Option Nat) (mo : Int32) (n : Nat) (ad : Nat → Nat) (d : Nat → Nat → Nat) (x : Int32) (y : Int32) (hn : n ≤ cap) (hc : cap < 2147483648) (ha : ∀ k, k < n → a k = some (ad k)) (hd : ∀ j k, k < n → d j k ≤ 1000) (hg : gr ≤ 1000 ∧ gs ≤ 1000 ∧ bg ≤ 1000 ∧ re ≤ 1000 ∧ ce ≤ 1000) : zp_M l yGR_ownerOf wGR_ownerOf ({ frames := 3, cells := 0, slots := 0, locals := 64 }) [.ref g, .int x, .int y] (dC, dI) vwCl ([(g, .inr (1, [.ref al, .int (nI gr), .int (nI gs), .int (nI bg), .int (nI re), .int (nI ce)])), (al, .inr (2, [.ref ed, .int (nI n), .int mo])), (ed, .inl (cE, cap, .inr (.inr (.inr (.inr a)))))] ++ zcs n ad (zcf d)) [(cE, .object "java/lang/Object")] (fun _ => True) (fun r => zFst n (fun k => zTd d k x y) r) := by
  refine zp_head (cc := cGR_ownerOf) (maxL := 4) (ret := (some .int)) (by decide +kernel) rfl (Nat.le_of_ble_eq_true rfl) ?_
  intro p e s m below meth c ls F hP hK hX hl
  obtain ⟨hx, hb, hml, hr, hlocks, hown, hts⟩ := F
  have hown : s.vm.findClass "SpannedCells$Grid" = some m.cls := hown
  have hz : ∀ w9 ∈ zT, w9.before [.ref g, .int x, .int y].toArray s = true := fun w9 h => hts w9 (List.mem_cons_of_mem _ h)
  have hl : lv_has ls 4 [(0, .ref g), (1, .int x), (2, .int y)] := hl
  refine z_q (fun Q hQ => ?_)
  refine lv_iconst (v := nI 0) hx hb dGR_ownerOf_0 (by decide) ?_
  refine lv_istore_n hx hb dGR_ownerOf_1 rfl hl (Nat.le_of_ble_eq_true rfl) rfl (fun ls hl => ?_)
  have hl : lv_has ls 4 [(3, .int (nI 0)), (0, .ref g), (1, .int x), (2, .int y)] := hl
  refine zl_up (σ := Unit) n (fun i x9 ls => lv_has ls 4 [(3, .int (nI i)), (2, .int y), (1, .int x), (0, .ref g)] ∧ (∀ k, k < i → ¬ zTd d k x y)) ?_ ?_ 0 (Nat.zero_le _) () ls ⟨lv_sub hl [0, 3, 2, 1] rfl, fun k hk => absurd hk (Nat.not_lt_zero _)⟩
  · intro x9 ls hI
    obtain ⟨hl, hxI⟩ := hI
    have hl : lv_has ls 4 [(3, .int (nI n)), (2, .int y), (1, .int x), (0, .ref g)] := hl
    refine lv_iload_n hx hb dGR_ownerOf_2 rfl (lv_at hl 0 rfl) ?_
    refine lv_aload_n hx hb dGR_ownerOf_3 rfl (lv_at hl 3 rfl) ?_
    refine va_get (D := (dC, dI)) (ci := 1) (v := .ref al) (C := RGR) (T := TGR) (N := 6) hx hb hz in_GR hown hK hP 0 rfl rfl 0 (by decide) (hz _ wd_85) (fun _ h9 => h9) rfl dGR_ownerOf_4 ?_
    refine vp_callSi (W.runV (As := []) (rest := [.int (nI n)]) ⟨hx, hb, hml, hown, hz⟩ (f_AL_size l dC dI al ed mo n ) (cwV 0 hz (z_gV wd_192 wd_193 wd_194 wd_33 wd_195) rfl rfl rfl (by decide +kernel) ⟨Nat.le_of_ble_eq_true rfl, Nat.le_of_ble_eq_true rfl⟩) (zr_preV hK (hP.sub [1] rfl) (va_recv (q0 := 1) hK hP (q := (RAL, TAL, 3)) rfl rfl) [] rfl z_true (fun _ _ _ => trivial)) rfl rfl hl.1 rfl (lv_room (Nat.le_of_ble_eq_true rfl)) dGR_ownerOf_7 ⟨Nat.le_of_ble_eq_true rfl, Nat.le_of_ble_eq_true rfl⟩) (fun r1 h_r1 => ?_)
    have h_r1 : r1 = nI n := h_r1
    subst h_r1
    have t2 := nI_toInt (n := n) (by omega)
    have t3 := nI_toInt (n := n) (by omega)
    refine lv_icmp_ge (tgt := 40) hx hb dGR_ownerOf_10 rfl (fun _ => ?_) (fun h => by have h := z_nle h; omega)
    refine lv_iconst (v := (-1)) hx hb dGR_ownerOf_40 (by decide) ?_
    subst hQ
    exact zp_iret hx hb hr hlocks (Or.inl ⟨rfl, hxI⟩) dGR_ownerOf_41
  · intro i hi ih
    intro x9 ls hI
    obtain ⟨hl, hxI⟩ := hI
    have hl : lv_has ls 4 [(3, .int (nI i)), (2, .int y), (1, .int x), (0, .ref g)] := hl
    refine lv_iload_n hx hb dGR_ownerOf_2 rfl (lv_at hl 0 rfl) ?_
    refine lv_aload_n hx hb dGR_ownerOf_3 rfl (lv_at hl 3 rfl) ?_
    refine va_get (D := (dC, dI)) (ci := 1) (v := .ref al) (C := RGR) (T := TGR) (N := 6) hx hb hz in_GR hown hK hP 0 rfl rfl 0 (by decide) (hz _ wd_85) (fun _ h9 => h9) rfl dGR_ownerOf_4 ?_
    refine vp_callSi (W.runV (As := []) (rest := [.int (nI i)]) ⟨hx, hb, hml, hown, hz⟩ (f_AL_size l dC dI al ed mo n ) (cwV 0 hz (z_gV wd_192 wd_193 wd_194 wd_33 wd_195) rfl rfl rfl (by decide +kernel) ⟨Nat.le_of_ble_eq_true rfl, Nat.le_of_ble_eq_true rfl⟩) (zr_preV hK (hP.sub [1] rfl) (va_recv (q0 := 1) hK hP (q := (RAL, TAL, 3)) rfl rfl) [] rfl z_true (fun _ _ _ => trivial)) rfl rfl hl.1 rfl (lv_room (Nat.le_of_ble_eq_true rfl)) dGR_ownerOf_7 ⟨Nat.le_of_ble_eq_true rfl, Nat.le_of_ble_eq_true rfl⟩) (fun r4 h_r4 => ?_)
    have h_r4 : r4 = nI n := h_r4
    subst h_r4
    have t5 := nI_toInt (n := i) (by omega)
    have t6 := nI_toInt (n := n) (by omega)
    refine lv_icmp_ge (tgt := 40) hx hb dGR_ownerOf_10 rfl (fun h => by have h := z_le h; omega) (fun _ => ?_)
    refine lv_aload_n hx hb dGR_ownerOf_13 rfl (lv_at hl 3 rfl) ?_
    refine va_get (D := (dC, dI)) (ci := 1) (v := .ref al) (C := RGR) (T := TGR) (N := 6) hx hb hz in_GR hown hK hP 0 rfl rfl 0 (by decide) (hz _ wd_85) (fun _ h9 => h9) rfl dGR_ownerOf_14 ?_
    refine lv_iload_n hx hb dGR_ownerOf_17 rfl (lv_at hl 0 rfl) ?_
    refine va_csr (W.runV (As := [.int (nI i)]) (rest := []) ⟨hx, hb, hml, hown, hz⟩ (f_AL_get l dC dI al ed cE cap a mo n i (ad i) (by omega) (by omega) (by omega) (ha _ (by omega))) (cwV 1 hz (z_gV wd_196 wd_197 wd_198 wd_33 wd_199) rfl rfl rfl (by decide +kernel) ⟨Nat.le_of_ble_eq_true rfl, Nat.le_of_ble_eq_true rfl⟩) (zr_preV hK (hP.sub [1, 2] rfl) (va_recv (q0 := 1) hK hP (q := (RAL, TAL, 3)) rfl rfl) [0] rfl z_true (fun _ _ _ => trivial)) rfl rfl hl.1 rfl (lv_room (Nat.le_of_ble_eq_true rfl)) dGR_ownerOf_18 ⟨Nat.le_of_ble_eq_true rfl, Nat.le_of_ble_eq_true rfl⟩) (fun r7 h_r7 => ?_)
    have h_r7 : r7 = (ad i) := h_r7
    subst h_r7
    refine va_castE hx hb hown (hz _ wd_210) (va_recv hK hP (q := (RCE, TCE, 10)) rfl (zcs_get rfl (by omega))) dGR_ownerOf_21 ?_
    refine lv_iload_n hx hb dGR_ownerOf_24 rfl (lv_at hl 2 rfl) ?_
    refine lv_iload_n hx hb dGR_ownerOf_25 rfl (lv_at hl 1 rfl) ?_
    refine vp_callSi (W.runV (As := [.int x, .int y]) (rest := []) ⟨hx, hb, hml, hown, hz⟩ (f_CE_takes l dC dI (ad i) (d 0 i) (d 1 i) (d 2 i) (d 3 i) (d 4 i) (d 5 i) (d 6 i) (d 7 i) (d 8 i) (d 9 i) x y (by have := hd 0 i hi; have := hd 2 i hi; omega) (by have := hd 1 i hi; have := hd 7 i hi; omega)) (cwV 2 hz (z_gV wd_234 wd_235 wd_236 wd_41 wd_237) rfl rfl rfl (by decide +kernel) ⟨Nat.le_of_ble_eq_true rfl, Nat.le_of_ble_eq_true rfl⟩) (zr_preV hK (zt_one hP (zcs_get rfl (by omega))) (va_recv hK hP (q := (RCE, TCE, 10)) rfl (zcs_get rfl (by omega))) [] rfl z_true (fun _ _ _ => trivial)) rfl rfl hl.1 rfl (lv_room (Nat.le_of_ble_eq_true rfl)) dGR_ownerOf_26 ⟨Nat.le_of_ble_eq_true rfl, Nat.le_of_ble_eq_true rfl⟩) (fun rt h_rt => ?_)
    have h_rt : z_yn rt (zTk (d 0 i) (d 2 i) (d 1 i) (d 7 i) x y) := h_rt
    refine lv_if_eq (tgt := 34) hx hb dGR_ownerOf_29 rfl (fun h_b => ?_) (fun h_b => ?_)
    · refine lv_iinc (k := 0) (v := nI (i + 1)) hx hb dGR_ownerOf_34 hl rfl (by rw [show Int32.ofInt 1 = nI 1 from by decide]; exact nI_add _ _) (Nat.le_of_ble_eq_true rfl) rfl (fun ls hl => ?_)
      have hl : lv_has ls 4 [(3, .int (nI (i + 1))), (2, .int y), (1, .int x), (0, .ref g)] := hl
      refine lv_goto (tgt := 2) hx hb dGR_ownerOf_37 rfl ?_
      exact ih () ls ⟨lv_sub hl [0, 1, 2, 3] rfl, lt_s hxI (z_yF h_rt h_b)⟩
    · refine lv_iload_n hx hb dGR_ownerOf_32 rfl (lv_at hl 0 rfl) ?_
      subst hQ
      exact zp_iret hx hb hr hlocks (Or.inr ⟨i, hi, rfl, z_yT h_rt h_b, hxI⟩) dGR_ownerOf_33
end
section
set_option maxHeartbeats 4000000 in
set_option maxRecDepth 100000 in
theorem f_GR_beginsInColumn (l : Launch) (dC : Nat → ClassId) (dI : Nat → Nat → Nat) (g : Nat) (gr : Nat) (gs : Nat) (bg : Nat) (re : Nat) (ce : Nat) (al : Nat) (ed : Nat) (cE : ClassId) (cap : Nat) (a : Nat → Option Nat) (mo : Int32) (n : Nat) (ad : Nat → Nat) (d : Nat → Nat → Nat) (x : Nat) (hn : n ≤ cap) (hc : cap < 2147483648) (ha : ∀ k, k < n → a k = some (ad k)) (hd : ∀ j k, k < n → d j k ≤ 1000) (hg : gr ≤ 1000 ∧ gs ≤ 1000 ∧ bg ≤ 1000 ∧ re ≤ 1000 ∧ ce ≤ 1000) (hx0 : x < 2147483648) : zp_M l yGR_beginsInColumn wGR_beginsInColumn ({ frames := 3, cells := 0, slots := 0, locals := 64 }) [.ref g, .int (nI x)] (dC, dI) vwCl ([(g, .inr (1, [.ref al, .int (nI gr), .int (nI gs), .int (nI bg), .int (nI re), .int (nI ce)])), (al, .inr (2, [.ref ed, .int (nI n), .int mo])), (ed, .inl (cE, cap, .inr (.inr (.inr (.inr a)))))] ++ zcs n ad (zcf d)) [(cE, .object "java/lang/Object")] (fun _ => True) (fun r => z_yn r (∃ k, k < n ∧ d 0 k = x)) := by
  refine zp_head (cc := cGR_beginsInColumn) (maxL := 3) (ret := (some .boolean)) (by decide +kernel) rfl (Nat.le_of_ble_eq_true rfl) ?_
  intro p e s m below meth c ls F hP hK hX hl
  obtain ⟨hx, hb, hml, hr, hlocks, hown, hts⟩ := F
  have hown : s.vm.findClass "SpannedCells$Grid" = some m.cls := hown
  have hz : ∀ w9 ∈ zT, w9.before [.ref g, .int (nI x)].toArray s = true := fun w9 h => hts w9 (List.mem_cons_of_mem _ h)
  have hl : lv_has ls 3 [(0, .ref g), (1, .int (nI x))] := hl
  refine z_q (fun Q hQ => ?_)
  refine lv_iconst (v := nI 0) hx hb dGR_beginsInColumn_0 (by decide) ?_
  refine lv_istore_n hx hb dGR_beginsInColumn_1 rfl hl (Nat.le_of_ble_eq_true rfl) rfl (fun ls hl => ?_)
  have hl : lv_has ls 3 [(2, .int (nI 0)), (0, .ref g), (1, .int (nI x))] := hl
  refine zl_up (σ := Unit) n (fun i x9 ls => lv_has ls 3 [(2, .int (nI i)), (1, .int (nI x)), (0, .ref g)] ∧ (∀ k, k < i → ¬ d 0 k = x)) ?_ ?_ 0 (Nat.zero_le _) () ls ⟨lv_sub hl [0, 2, 1] rfl, fun k hk => absurd hk (Nat.not_lt_zero _)⟩
  · intro x9 ls hI
    obtain ⟨hl, hxI⟩ := hI
    have hl : lv_has ls 3 [(2, .int (nI n)), (1, .int (nI x)), (0, .ref g)] := hl
    refine lv_iload_n hx hb dGR_beginsInColumn_2 rfl (lv_at hl 0 rfl) ?_
    refine lv_aload_n hx hb dGR_beginsInColumn_3 rfl (lv_at hl 2 rfl) ?_
    refine va_get (D := (dC, dI)) (ci := 1) (v := .ref al) (C := RGR) (T := TGR) (N := 6) hx hb hz in_GR hown hK hP 0 rfl rfl 0 (by decide) (hz _ wd_85) (fun _ h9 => h9) rfl dGR_beginsInColumn_4 ?_
    refine vp_callSi (W.runV (As := []) (rest := [.int (nI n)]) ⟨hx, hb, hml, hown, hz⟩ (f_AL_size l dC dI al ed mo n ) (cwV 0 hz (z_gV wd_192 wd_193 wd_194 wd_33 wd_195) rfl rfl rfl (by decide +kernel) ⟨Nat.le_of_ble_eq_true rfl, Nat.le_of_ble_eq_true rfl⟩) (zr_preV hK (hP.sub [1] rfl) (va_recv (q0 := 1) hK hP (q := (RAL, TAL, 3)) rfl rfl) [] rfl z_true (fun _ _ _ => trivial)) rfl rfl hl.1 rfl (lv_room (Nat.le_of_ble_eq_true rfl)) dGR_beginsInColumn_7 ⟨Nat.le_of_ble_eq_true rfl, Nat.le_of_ble_eq_true rfl⟩) (fun r1 h_r1 => ?_)
    have h_r1 : r1 = nI n := h_r1
    subst h_r1
    have t2 := nI_toInt (n := n) (by omega)
    have t3 := nI_toInt (n := n) (by omega)
    refine lv_icmp_ge (tgt := 39) hx hb dGR_beginsInColumn_10 rfl (fun _ => ?_) (fun h => by have h := z_nle h; omega)
    refine lv_iconst (v := nI 0) hx hb dGR_beginsInColumn_39 (by decide) ?_
    subst hQ
    exact zp_zret hx hb hr hlocks (Or.inl rfl) (z_y0 (fun ⟨k, hk, hq⟩ => hxI k hk hq)) dGR_beginsInColumn_40
  · intro i hi ih
    intro x9 ls hI
    obtain ⟨hl, hxI⟩ := hI
    have hl : lv_has ls 3 [(2, .int (nI i)), (1, .int (nI x)), (0, .ref g)] := hl
    refine lv_iload_n hx hb dGR_beginsInColumn_2 rfl (lv_at hl 0 rfl) ?_
    refine lv_aload_n hx hb dGR_beginsInColumn_3 rfl (lv_at hl 2 rfl) ?_
    refine va_get (D := (dC, dI)) (ci := 1) (v := .ref al) (C := RGR) (T := TGR) (N := 6) hx hb hz in_GR hown hK hP 0 rfl rfl 0 (by decide) (hz _ wd_85) (fun _ h9 => h9) rfl dGR_beginsInColumn_4 ?_
    refine vp_callSi (W.runV (As := []) (rest := [.int (nI i)]) ⟨hx, hb, hml, hown, hz⟩ (f_AL_size l dC dI al ed mo n ) (cwV 0 hz (z_gV wd_192 wd_193 wd_194 wd_33 wd_195) rfl rfl rfl (by decide +kernel) ⟨Nat.le_of_ble_eq_true rfl, Nat.le_of_ble_eq_true rfl⟩) (zr_preV hK (hP.sub [1] rfl) (va_recv (q0 := 1) hK hP (q := (RAL, TAL, 3)) rfl rfl) [] rfl z_true (fun _ _ _ => trivial)) rfl rfl hl.1 rfl (lv_room (Nat.le_of_ble_eq_true rfl)) dGR_beginsInColumn_7 ⟨Nat.le_of_ble_eq_true rfl, Nat.le_of_ble_eq_true rfl⟩) (fun r4 h_r4 => ?_)
    have h_r4 : r4 = nI n := h_r4
    subst h_r4
    have t5 := nI_toInt (n := i) (by omega)
    have t6 := nI_toInt (n := n) (by omega)
    refine lv_icmp_ge (tgt := 39) hx hb dGR_beginsInColumn_10 rfl (fun h => by have h := z_le h; omega) (fun _ => ?_)
    refine lv_aload_n hx hb dGR_beginsInColumn_13 rfl (lv_at hl 2 rfl) ?_
    refine va_get (D := (dC, dI)) (ci := 1) (v := .ref al) (C := RGR) (T := TGR) (N := 6) hx hb hz in_GR hown hK hP 0 rfl rfl 0 (by decide) (hz _ wd_85) (fun _ h9 => h9) rfl dGR_beginsInColumn_14 ?_
    refine lv_iload_n hx hb dGR_beginsInColumn_17 rfl (lv_at hl 0 rfl) ?_
    refine va_csr (W.runV (As := [.int (nI i)]) (rest := []) ⟨hx, hb, hml, hown, hz⟩ (f_AL_get l dC dI al ed cE cap a mo n i (ad i) (by omega) (by omega) (by omega) (ha _ (by omega))) (cwV 1 hz (z_gV wd_196 wd_197 wd_198 wd_33 wd_199) rfl rfl rfl (by decide +kernel) ⟨Nat.le_of_ble_eq_true rfl, Nat.le_of_ble_eq_true rfl⟩) (zr_preV hK (hP.sub [1, 2] rfl) (va_recv (q0 := 1) hK hP (q := (RAL, TAL, 3)) rfl rfl) [0] rfl z_true (fun _ _ _ => trivial)) rfl rfl hl.1 rfl (lv_room (Nat.le_of_ble_eq_true rfl)) dGR_beginsInColumn_18 ⟨Nat.le_of_ble_eq_true rfl, Nat.le_of_ble_eq_true rfl⟩) (fun r7 h_r7 => ?_)
    have h_r7 : r7 = (ad i) := h_r7
    subst h_r7
    refine va_castE hx hb hown (hz _ wd_210) (va_recv hK hP (q := (RCE, TCE, 10)) rfl (zcs_get rfl (by omega))) dGR_beginsInColumn_21 ?_
    refine va_get (D := (dC, dI)) (ci := 7) (v := .int (nI (d 0 i))) (C := RCE) (T := TCE) (N := 10) hx hb hz in_CE hown hK hP (3 + i) (zcs_get rfl (by omega)) rfl 0 (by decide) (hz _ wd_254) (fun _ h9 => h9) rfl dGR_beginsInColumn_24 ?_
    refine lv_iload_n hx hb dGR_beginsInColumn_27 rfl (lv_at hl 1 rfl) ?_
    have t8 := hd 0 i (by omega)
    have t9 := nI_toInt (n := d 0 i) (by omega)
    have t10 := nI_toInt (n := x) (by omega)
    refine lv_icmp_ne (tgt := 33) hx hb dGR_beginsInColumn_28 rfl (fun h_b => ?_) (fun h_b => ?_)
    · have h_b := z_ne h_b
      refine lv_iinc (k := 0) (v := nI (i + 1)) hx hb dGR_beginsInColumn_33 hl rfl (by rw [show Int32.ofInt 1 = nI 1 from by decide]; exact nI_add _ _) (Nat.le_of_ble_eq_true rfl) rfl (fun ls hl => ?_)
      have hl : lv_has ls 3 [(2, .int (nI (i + 1))), (1, .int (nI x)), (0, .ref g)] := hl
      refine lv_goto (tgt := 2) hx hb dGR_beginsInColumn_36 rfl ?_
      exact ih () ls ⟨lv_sub hl [0, 1, 2] rfl, lt_s hxI (by omega)⟩
    · have h_b := z_eq h_b
      refine lv_iconst (v := nI 1) hx hb dGR_beginsInColumn_31 (by decide) ?_
      subst hQ
      exact zp_zret hx hb hr hlocks (Or.inr rfl) (z_y1 ⟨i, hi, by omega⟩) dGR_beginsInColumn_32

set_option maxHeartbeats 4000000 in
set_option maxRecDepth 100000 in
theorem f_GR_beginsInRow (l : Launch) (dC : Nat → ClassId) (dI : Nat → Nat → Nat) (g : Nat) (gr : Nat) (gs : Nat) (bg : Nat) (re : Nat) (ce : Nat) (al : Nat) (ed : Nat) (cE : ClassId) (cap : Nat) (a : Nat → Option Nat) (mo : Int32) (n : Nat) (ad : Nat → Nat) (d : Nat → Nat → Nat) (x : Nat) (hn : n ≤ cap) (hc : cap < 2147483648) (ha : ∀ k, k < n → a k = some (ad k)) (hd : ∀ j k, k < n → d j k ≤ 1000) (hg : gr ≤ 1000 ∧ gs ≤ 1000 ∧ bg ≤ 1000 ∧ re ≤ 1000 ∧ ce ≤ 1000) (hx0 : x < 2147483648) : zp_M l yGR_beginsInRow wGR_beginsInRow ({ frames := 3, cells := 0, slots := 0, locals := 64 }) [.ref g, .int (nI x)] (dC, dI) vwCl ([(g, .inr (1, [.ref al, .int (nI gr), .int (nI gs), .int (nI bg), .int (nI re), .int (nI ce)])), (al, .inr (2, [.ref ed, .int (nI n), .int mo])), (ed, .inl (cE, cap, .inr (.inr (.inr (.inr a)))))] ++ zcs n ad (zcf d)) [(cE, .object "java/lang/Object")] (fun _ => True) (fun r => z_yn r (∃ k, k < n ∧ d 1 k = x)) := by
  refine zp_head (cc := cGR_beginsInRow) (maxL := 3) (ret := (some .boolean)) (by decide +kernel) rfl (Nat.le_of_ble_eq_true rfl) ?_
  intro p e s m below meth c ls F hP hK hX hl
  obtain ⟨hx, hb, hml, hr, hlocks, hown, hts⟩ := F
  have hown : s.vm.findClass "SpannedCells$Grid" = some m.cls := hown
  have hz : ∀ w9 ∈ zT, w9.before [.ref g, .int (nI x)].toArray s = true := fun w9 h => hts w9 (List.mem_cons_of_mem _ h)
  have hl : lv_has ls 3 [(0, .ref g), (1, .int (nI x))] := hl
  refine z_q (fun Q hQ => ?_)
  refine lv_iconst (v := nI 0) hx hb dGR_beginsInRow_0 (by decide) ?_
  refine lv_istore_n hx hb dGR_beginsInRow_1 rfl hl (Nat.le_of_ble_eq_true rfl) rfl (fun ls hl => ?_)
  have hl : lv_has ls 3 [(2, .int (nI 0)), (0, .ref g), (1, .int (nI x))] := hl
  refine zl_up (σ := Unit) n (fun i x9 ls => lv_has ls 3 [(2, .int (nI i)), (1, .int (nI x)), (0, .ref g)] ∧ (∀ k, k < i → ¬ d 1 k = x)) ?_ ?_ 0 (Nat.zero_le _) () ls ⟨lv_sub hl [0, 2, 1] rfl, fun k hk => absurd hk (Nat.not_lt_zero _)⟩
  · intro x9 ls hI
    obtain ⟨hl, hxI⟩ := hI
    have hl : lv_has ls 3 [(2, .int (nI n)), (1, .int (nI x)), (0, .ref g)] := hl
    refine lv_iload_n hx hb dGR_beginsInRow_2 rfl (lv_at hl 0 rfl) ?_
    refine lv_aload_n hx hb dGR_beginsInRow_3 rfl (lv_at hl 2 rfl) ?_
    refine va_get (D := (dC, dI)) (ci := 1) (v := .ref al) (C := RGR) (T := TGR) (N := 6) hx hb hz in_GR hown hK hP 0 rfl rfl 0 (by decide) (hz _ wd_85) (fun _ h9 => h9) rfl dGR_beginsInRow_4 ?_
    refine vp_callSi (W.runV (As := []) (rest := [.int (nI n)]) ⟨hx, hb, hml, hown, hz⟩ (f_AL_size l dC dI al ed mo n ) (cwV 0 hz (z_gV wd_192 wd_193 wd_194 wd_33 wd_195) rfl rfl rfl (by decide +kernel) ⟨Nat.le_of_ble_eq_true rfl, Nat.le_of_ble_eq_true rfl⟩) (zr_preV hK (hP.sub [1] rfl) (va_recv (q0 := 1) hK hP (q := (RAL, TAL, 3)) rfl rfl) [] rfl z_true (fun _ _ _ => trivial)) rfl rfl hl.1 rfl (lv_room (Nat.le_of_ble_eq_true rfl)) dGR_beginsInRow_7 ⟨Nat.le_of_ble_eq_true rfl, Nat.le_of_ble_eq_true rfl⟩) (fun r1 h_r1 => ?_)
    have h_r1 : r1 = nI n := h_r1
    subst h_r1
    have t2 := nI_toInt (n := n) (by omega)
    have t3 := nI_toInt (n := n) (by omega)
    refine lv_icmp_ge (tgt := 39) hx hb dGR_beginsInRow_10 rfl (fun _ => ?_) (fun h => by have h := z_nle h; omega)
    refine lv_iconst (v := nI 0) hx hb dGR_beginsInRow_39 (by decide) ?_
    subst hQ
    exact zp_zret hx hb hr hlocks (Or.inl rfl) (z_y0 (fun ⟨k, hk, hq⟩ => hxI k hk hq)) dGR_beginsInRow_40
  · intro i hi ih
    intro x9 ls hI
    obtain ⟨hl, hxI⟩ := hI
    have hl : lv_has ls 3 [(2, .int (nI i)), (1, .int (nI x)), (0, .ref g)] := hl
    refine lv_iload_n hx hb dGR_beginsInRow_2 rfl (lv_at hl 0 rfl) ?_
    refine lv_aload_n hx hb dGR_beginsInRow_3 rfl (lv_at hl 2 rfl) ?_
    refine va_get (D := (dC, dI)) (ci := 1) (v := .ref al) (C := RGR) (T := TGR) (N := 6) hx hb hz in_GR hown hK hP 0 rfl rfl 0 (by decide) (hz _ wd_85) (fun _ h9 => h9) rfl dGR_beginsInRow_4 ?_
    refine vp_callSi (W.runV (As := []) (rest := [.int (nI i)]) ⟨hx, hb, hml, hown, hz⟩ (f_AL_size l dC dI al ed mo n ) (cwV 0 hz (z_gV wd_192 wd_193 wd_194 wd_33 wd_195) rfl rfl rfl (by decide +kernel) ⟨Nat.le_of_ble_eq_true rfl, Nat.le_of_ble_eq_true rfl⟩) (zr_preV hK (hP.sub [1] rfl) (va_recv (q0 := 1) hK hP (q := (RAL, TAL, 3)) rfl rfl) [] rfl z_true (fun _ _ _ => trivial)) rfl rfl hl.1 rfl (lv_room (Nat.le_of_ble_eq_true rfl)) dGR_beginsInRow_7 ⟨Nat.le_of_ble_eq_true rfl, Nat.le_of_ble_eq_true rfl⟩) (fun r4 h_r4 => ?_)
    have h_r4 : r4 = nI n := h_r4
    subst h_r4
    have t5 := nI_toInt (n := i) (by omega)
    have t6 := nI_toInt (n := n) (by omega)
    refine lv_icmp_ge (tgt := 39) hx hb dGR_beginsInRow_10 rfl (fun h => by have h := z_le h; omega) (fun _ => ?_)
    refine lv_aload_n hx hb dGR_beginsInRow_13 rfl (lv_at hl 2 rfl) ?_
    refine va_get (D := (dC, dI)) (ci := 1) (v := .ref al) (C := RGR) (T := TGR) (N := 6) hx hb hz in_GR hown hK hP 0 rfl rfl 0 (by decide) (hz _ wd_85) (fun _ h9 => h9) rfl dGR_beginsInRow_14 ?_
    refine lv_iload_n hx hb dGR_beginsInRow_17 rfl (lv_at hl 0 rfl) ?_
    refine va_csr (W.runV (As := [.int (nI i)]) (rest := []) ⟨hx, hb, hml, hown, hz⟩ (f_AL_get l dC dI al ed cE cap a mo n i (ad i) (by omega) (by omega) (by omega) (ha _ (by omega))) (cwV 1 hz (z_gV wd_196 wd_197 wd_198 wd_33 wd_199) rfl rfl rfl (by decide +kernel) ⟨Nat.le_of_ble_eq_true rfl, Nat.le_of_ble_eq_true rfl⟩) (zr_preV hK (hP.sub [1, 2] rfl) (va_recv (q0 := 1) hK hP (q := (RAL, TAL, 3)) rfl rfl) [0] rfl z_true (fun _ _ _ => trivial)) rfl rfl hl.1 rfl (lv_room (Nat.le_of_ble_eq_true rfl)) dGR_beginsInRow_18 ⟨Nat.le_of_ble_eq_true rfl, Nat.le_of_ble_eq_true rfl⟩) (fun r7 h_r7 => ?_)
    have h_r7 : r7 = (ad i) := h_r7
    subst h_r7
    refine va_castE hx hb hown (hz _ wd_210) (va_recv hK hP (q := (RCE, TCE, 10)) rfl (zcs_get rfl (by omega))) dGR_beginsInRow_21 ?_
    refine va_get (D := (dC, dI)) (ci := 7) (v := .int (nI (d 1 i))) (C := RCE) (T := TCE) (N := 10) hx hb hz in_CE hown hK hP (3 + i) (zcs_get rfl (by omega)) rfl 1 (by decide) (hz _ wd_258) (fun _ h9 => h9) rfl dGR_beginsInRow_24 ?_
    refine lv_iload_n hx hb dGR_beginsInRow_27 rfl (lv_at hl 1 rfl) ?_
    have t8 := hd 1 i (by omega)
    have t9 := nI_toInt (n := d 1 i) (by omega)
    have t10 := nI_toInt (n := x) (by omega)
    refine lv_icmp_ne (tgt := 33) hx hb dGR_beginsInRow_28 rfl (fun h_b => ?_) (fun h_b => ?_)
    · have h_b := z_ne h_b
      refine lv_iinc (k := 0) (v := nI (i + 1)) hx hb dGR_beginsInRow_33 hl rfl (by rw [show Int32.ofInt 1 = nI 1 from by decide]; exact nI_add _ _) (Nat.le_of_ble_eq_true rfl) rfl (fun ls hl => ?_)
      have hl : lv_has ls 3 [(2, .int (nI (i + 1))), (1, .int (nI x)), (0, .ref g)] := hl
      refine lv_goto (tgt := 2) hx hb dGR_beginsInRow_36 rfl ?_
      exact ih () ls ⟨lv_sub hl [0, 1, 2] rfl, lt_s hxI (by omega)⟩
    · have h_b := z_eq h_b
      refine lv_iconst (v := nI 1) hx hb dGR_beginsInRow_31 (by decide) ?_
      subst hQ
      exact zp_zret hx hb hr hlocks (Or.inr rfl) (z_y1 ⟨i, hi, by omega⟩) dGR_beginsInRow_32

set_option maxHeartbeats 4000000 in
set_option maxRecDepth 100000 in
theorem f_GR_countEmptyColumns (l : Launch) (dC : Nat → ClassId) (dI : Nat → Nat → Nat) (g : Nat) (gr : Nat) (gs : Nat) (bg : Nat) (re : Nat) (ce : Nat) (al : Nat) (ed : Nat) (cE : ClassId) (cap : Nat) (a : Nat → Option Nat) (mo : Int32) (n : Nat) (ad : Nat → Nat) (d : Nat → Nat → Nat) (hn : n ≤ cap) (hc : cap < 2147483648) (ha : ∀ k, k < n → a k = some (ad k)) (hd : ∀ j k, k < n → d j k ≤ 1000) (hg : gr ≤ 1000 ∧ gs ≤ 1000 ∧ bg ≤ 1000 ∧ re ≤ 1000 ∧ ce ≤ 1000) : zp_M l yGR_countEmptyColumns wGR_countEmptyColumns ({ frames := 4, cells := 0, slots := 0, locals := 86 }) [.ref g] (dC, dI) vwCl ([(g, .inr (1, [.ref al, .int (nI gr), .int (nI gs), .int (nI bg), .int (nI re), .int (nI ce)])), (al, .inr (2, [.ref ed, .int (nI n), .int mo])), (ed, .inl (cE, cap, .inr (.inr (.inr (.inr a)))))] ++ zcs n ad (zcf d)) [(cE, .object "java/lang/Object")] (fun _ => True) (fun r => r = nI (zCn (zEc n (d 0)) ce)) := by
  refine zp_head (cc := cGR_countEmptyColumns) (maxL := 3) (ret := (some .int)) (by decide +kernel) rfl (Nat.le_of_ble_eq_true rfl) ?_
  intro p e s m below meth c ls F hP hK hX hl
  obtain ⟨hx, hb, hml, hr, hlocks, hown, hts⟩ := F
  have hown : s.vm.findClass "SpannedCells$Grid" = some m.cls := hown
  have hz : ∀ w9 ∈ zT, w9.before [.ref g].toArray s = true := fun w9 h => hts w9 (List.mem_cons_of_mem _ h)
  have hl : lv_has ls 3 [(0, .ref g)] := hl
  refine z_q (fun Q hQ => ?_)
  refine lv_iconst (v := nI 0) hx hb dGR_countEmptyColumns_0 (by decide) ?_
  refine lv_istore_n hx hb dGR_countEmptyColumns_1 rfl hl (Nat.le_of_ble_eq_true rfl) rfl (fun ls hl => ?_)
  have hl : lv_has ls 3 [(1, .int (nI 0)), (0, .ref g)] := hl
  refine lv_iconst (v := nI 0) hx hb dGR_countEmptyColumns_2 (by decide) ?_
  refine lv_istore_n hx hb dGR_countEmptyColumns_3 rfl hl (Nat.le_of_ble_eq_true rfl) rfl (fun ls hl => ?_)
  have hl : lv_has ls 3 [(2, .int (nI 0)), (1, .int (nI 0)), (0, .ref g)] := hl
  refine zl_up (σ := Unit) ce (fun i x9 ls => lv_has ls 3 [(2, .int (nI i)), (1, .int (nI (zCn (zEc n (d 0)) i))), (0, .ref g)]) ?_ ?_ 0 (Nat.zero_le _) () ls (lv_sub hl [0, 1, 2] rfl)
  · intro x9 ls hI
    have hl := hI
    have hl : lv_has ls 3 [(2, .int (nI ce)), (1, .int (nI (zCn (zEc n (d 0)) ce))), (0, .ref g)] := hl
    refine lv_iload_n hx hb dGR_countEmptyColumns_4 rfl (lv_at hl 0 rfl) ?_
    refine lv_aload_n hx hb dGR_countEmptyColumns_5 rfl (lv_at hl 2 rfl) ?_
    refine va_get (D := (dC, dI)) (ci := 1) (v := .int (nI ce)) (C := RGR) (T := TGR) (N := 6) hx hb hz in_GR hown hK hP 0 rfl rfl 5 (by decide) (hz _ wd_90) (fun _ h9 => h9) rfl dGR_countEmptyColumns_6 ?_
    have t1 := nI_toInt (n := ce) (by omega)
    have t2 := nI_toInt (n := ce) (by omega)
    refine lv_icmp_ge (tgt := 34) hx hb dGR_countEmptyColumns_9 rfl (fun _ => ?_) (fun h => by have h := z_nle h; omega)
    refine lv_iload_n hx hb dGR_countEmptyColumns_34 rfl (lv_at hl 1 rfl) ?_
    subst hQ
    exact zp_iret hx hb hr hlocks (rfl) dGR_countEmptyColumns_35
  · intro i hi ih
    intro x9 ls hI
    have hl := hI
    have hl : lv_has ls 3 [(2, .int (nI i)), (1, .int (nI (zCn (zEc n (d 0)) i))), (0, .ref g)] := hl
    refine lv_iload_n hx hb dGR_countEmptyColumns_4 rfl (lv_at hl 0 rfl) ?_
    refine lv_aload_n hx hb dGR_countEmptyColumns_5 rfl (lv_at hl 2 rfl) ?_
    refine va_get (D := (dC, dI)) (ci := 1) (v := .int (nI ce)) (C := RGR) (T := TGR) (N := 6) hx hb hz in_GR hown hK hP 0 rfl rfl 5 (by decide) (hz _ wd_90) (fun _ h9 => h9) rfl dGR_countEmptyColumns_6 ?_
    have t3 := nI_toInt (n := i) (by omega)
    have t4 := nI_toInt (n := ce) (by omega)
    refine lv_icmp_ge (tgt := 34) hx hb dGR_countEmptyColumns_9 rfl (fun h => by have h := z_le h; omega) (fun _ => ?_)
    refine lv_iload_n hx hb dGR_countEmptyColumns_12 rfl (lv_at hl 1 rfl) ?_
    refine lv_aload_n hx hb dGR_countEmptyColumns_13 rfl (lv_at hl 2 rfl) ?_
    refine lv_iload_n hx hb dGR_countEmptyColumns_14 rfl (lv_at hl 0 rfl) ?_
    refine vp_callSi (W.runV (As := [.int (nI i)]) (rest := [.int (nI (zCn (zEc n (d 0)) i))]) ⟨hx, hb, hml, hown, hz⟩ (f_GR_beginsInColumn l dC dI g gr gs bg re ce al ed cE cap a mo n ad d i (by omega) (by omega) (ha) (hd) (hg) (by omega)) (cwV 1 hz (z_gV wd_428 wd_430 wd_6 wd_30 wd_431) rfl rfl rfl (by decide +kernel) ⟨Nat.le_of_ble_eq_true rfl, Nat.le_of_ble_eq_true rfl⟩) (zr_preV hK (zt_sub hP [0, 1, 2] rfl) (va_recv (q0 := 0) hK hP (q := (RGR, TGR, 6)) rfl rfl) [0] rfl z_true (fun _ _ _ => trivial)) rfl rfl hl.1 rfl (lv_room (Nat.le_of_ble_eq_true rfl)) dGR_countEmptyColumns_15 ⟨Nat.le_of_ble_eq_true rfl, Nat.le_of_ble_eq_true rfl⟩) (fun rb h_rb => ?_)
    have h_rb : z_yn rb (∃ k, k < n ∧ d 0 k = i) := h_rb
    refine lv_if_eq (tgt := 25) hx hb dGR_countEmptyColumns_18 rfl (fun h_b => ?_) (fun h_b => ?_)
    · have h_b := z_yF h_rb h_b
      refine lv_iconst (v := nI 1) hx hb dGR_countEmptyColumns_25 (by decide) ?_
      refine lv_iadd hx hb dGR_countEmptyColumns_26 ?_
      refine lv_topi (fun x6 e7 => ?_)
      have e7 : x6 = nI (zCn (zEc n (d 0)) (i + 1)) := e7.trans (by rw [zCn_T (P := zEc n (d 0)) h_b]; exact nI_add _ _)
      subst e7
      refine lv_istore_n hx hb dGR_countEmptyColumns_27 rfl hl (Nat.le_of_ble_eq_true rfl) rfl (fun ls hl => ?_)
      have hl : lv_has ls 3 [(1, .int (nI (zCn (zEc n (d 0)) (i + 1)))), (2, .int (nI i)), (0, .ref g)] := hl
      refine lv_iinc (k := 1) (v := nI (i + 1)) hx hb dGR_countEmptyColumns_28 hl rfl (by rw [show Int32.ofInt 1 = nI 1 from by decide]; exact nI_add _ _) (Nat.le_of_ble_eq_true rfl) rfl (fun ls hl => ?_)
      have hl : lv_has ls 3 [(2, .int (nI (i + 1))), (1, .int (nI (zCn (zEc n (d 0)) (i + 1)))), (0, .ref g)] := hl
      refine lv_goto (tgt := 4) hx hb dGR_countEmptyColumns_31 rfl ?_
      exact ih () ls (lv_sub hl [0, 1, 2] rfl)
    · have h_b := z_yT h_rb h_b
      refine lv_iconst (v := nI 0) hx hb dGR_countEmptyColumns_21 (by decide) ?_
      refine lv_goto (tgt := 26) hx hb dGR_countEmptyColumns_22 rfl ?_
      refine lv_iadd hx hb dGR_countEmptyColumns_26 ?_
      refine lv_topi (fun x8 e9 => ?_)
      have e9 : x8 = nI (zCn (zEc n (d 0)) (i + 1)) := e9.trans (by rw [zCn_F (P := zEc n (d 0)) (fun h => h h_b)]; exact nI_add _ 0)
      subst e9
      refine lv_istore_n hx hb dGR_countEmptyColumns_27 rfl hl (Nat.le_of_ble_eq_true rfl) rfl (fun ls hl => ?_)
      have hl : lv_has ls 3 [(1, .int (nI (zCn (zEc n (d 0)) (i + 1)))), (2, .int (nI i)), (0, .ref g)] := hl
      refine lv_iinc (k := 1) (v := nI (i + 1)) hx hb dGR_countEmptyColumns_28 hl rfl (by rw [show Int32.ofInt 1 = nI 1 from by decide]; exact nI_add _ _) (Nat.le_of_ble_eq_true rfl) rfl (fun ls hl => ?_)
      have hl : lv_has ls 3 [(2, .int (nI (i + 1))), (1, .int (nI (zCn (zEc n (d 0)) (i + 1)))), (0, .ref g)] := hl
      refine lv_goto (tgt := 4) hx hb dGR_countEmptyColumns_31 rfl ?_
      exact ih () ls (lv_sub hl [0, 1, 2] rfl)

set_option maxHeartbeats 4000000 in
set_option maxRecDepth 100000 in
theorem f_GR_countEmptyRows (l : Launch) (dC : Nat → ClassId) (dI : Nat → Nat → Nat) (g : Nat) (gr : Nat) (gs : Nat) (bg : Nat) (re : Nat) (ce : Nat) (al : Nat) (ed : Nat) (cE : ClassId) (cap : Nat) (a : Nat → Option Nat) (mo : Int32) (n : Nat) (ad : Nat → Nat) (d : Nat → Nat → Nat) (hn : n ≤ cap) (hc : cap < 2147483648) (ha : ∀ k, k < n → a k = some (ad k)) (hd : ∀ j k, k < n → d j k ≤ 1000) (hg : gr ≤ 1000 ∧ gs ≤ 1000 ∧ bg ≤ 1000 ∧ re ≤ 1000 ∧ ce ≤ 1000) : zp_M l yGR_countEmptyRows wGR_countEmptyRows ({ frames := 4, cells := 0, slots := 0, locals := 86 }) [.ref g] (dC, dI) vwCl ([(g, .inr (1, [.ref al, .int (nI gr), .int (nI gs), .int (nI bg), .int (nI re), .int (nI ce)])), (al, .inr (2, [.ref ed, .int (nI n), .int mo])), (ed, .inl (cE, cap, .inr (.inr (.inr (.inr a)))))] ++ zcs n ad (zcf d)) [(cE, .object "java/lang/Object")] (fun _ => True) (fun r => r = nI (zCn (zEc n (d 1)) re)) := by
  refine zp_head (cc := cGR_countEmptyRows) (maxL := 3) (ret := (some .int)) (by decide +kernel) rfl (Nat.le_of_ble_eq_true rfl) ?_
  intro p e s m below meth c ls F hP hK hX hl
  obtain ⟨hx, hb, hml, hr, hlocks, hown, hts⟩ := F
  have hown : s.vm.findClass "SpannedCells$Grid" = some m.cls := hown
  have hz : ∀ w9 ∈ zT, w9.before [.ref g].toArray s = true := fun w9 h => hts w9 (List.mem_cons_of_mem _ h)
  have hl : lv_has ls 3 [(0, .ref g)] := hl
  refine z_q (fun Q hQ => ?_)
  refine lv_iconst (v := nI 0) hx hb dGR_countEmptyRows_0 (by decide) ?_
  refine lv_istore_n hx hb dGR_countEmptyRows_1 rfl hl (Nat.le_of_ble_eq_true rfl) rfl (fun ls hl => ?_)
  have hl : lv_has ls 3 [(1, .int (nI 0)), (0, .ref g)] := hl
  refine lv_iconst (v := nI 0) hx hb dGR_countEmptyRows_2 (by decide) ?_
  refine lv_istore_n hx hb dGR_countEmptyRows_3 rfl hl (Nat.le_of_ble_eq_true rfl) rfl (fun ls hl => ?_)
  have hl : lv_has ls 3 [(2, .int (nI 0)), (1, .int (nI 0)), (0, .ref g)] := hl
  refine zl_up (σ := Unit) re (fun i x9 ls => lv_has ls 3 [(2, .int (nI i)), (1, .int (nI (zCn (zEc n (d 1)) i))), (0, .ref g)]) ?_ ?_ 0 (Nat.zero_le _) () ls (lv_sub hl [0, 1, 2] rfl)
  · intro x9 ls hI
    have hl := hI
    have hl : lv_has ls 3 [(2, .int (nI re)), (1, .int (nI (zCn (zEc n (d 1)) re))), (0, .ref g)] := hl
    refine lv_iload_n hx hb dGR_countEmptyRows_4 rfl (lv_at hl 0 rfl) ?_
    refine lv_aload_n hx hb dGR_countEmptyRows_5 rfl (lv_at hl 2 rfl) ?_
    refine va_get (D := (dC, dI)) (ci := 1) (v := .int (nI re)) (C := RGR) (T := TGR) (N := 6) hx hb hz in_GR hown hK hP 0 rfl rfl 4 (by decide) (hz _ wd_89) (fun _ h9 => h9) rfl dGR_countEmptyRows_6 ?_
    have t1 := nI_toInt (n := re) (by omega)
    have t2 := nI_toInt (n := re) (by omega)
    refine lv_icmp_ge (tgt := 34) hx hb dGR_countEmptyRows_9 rfl (fun _ => ?_) (fun h => by have h := z_nle h; omega)
    refine lv_iload_n hx hb dGR_countEmptyRows_34 rfl (lv_at hl 1 rfl) ?_
    subst hQ
    exact zp_iret hx hb hr hlocks (rfl) dGR_countEmptyRows_35
  · intro i hi ih
    intro x9 ls hI
    have hl := hI
    have hl : lv_has ls 3 [(2, .int (nI i)), (1, .int (nI (zCn (zEc n (d 1)) i))), (0, .ref g)] := hl
    refine lv_iload_n hx hb dGR_countEmptyRows_4 rfl (lv_at hl 0 rfl) ?_
    refine lv_aload_n hx hb dGR_countEmptyRows_5 rfl (lv_at hl 2 rfl) ?_
    refine va_get (D := (dC, dI)) (ci := 1) (v := .int (nI re)) (C := RGR) (T := TGR) (N := 6) hx hb hz in_GR hown hK hP 0 rfl rfl 4 (by decide) (hz _ wd_89) (fun _ h9 => h9) rfl dGR_countEmptyRows_6 ?_
    have t3 := nI_toInt (n := i) (by omega)
    have t4 := nI_toInt (n := re) (by omega)
    refine lv_icmp_ge (tgt := 34) hx hb dGR_countEmptyRows_9 rfl (fun h => by have h := z_le h; omega) (fun _ => ?_)
    refine lv_iload_n hx hb dGR_countEmptyRows_12 rfl (lv_at hl 1 rfl) ?_
    refine lv_aload_n hx hb dGR_countEmptyRows_13 rfl (lv_at hl 2 rfl) ?_
    refine lv_iload_n hx hb dGR_countEmptyRows_14 rfl (lv_at hl 0 rfl) ?_
    refine vp_callSi (W.runV (As := [.int (nI i)]) (rest := [.int (nI (zCn (zEc n (d 1)) i))]) ⟨hx, hb, hml, hown, hz⟩ (f_GR_beginsInRow l dC dI g gr gs bg re ce al ed cE cap a mo n ad d i (by omega) (by omega) (ha) (hd) (hg) (by omega)) (cwV 1 hz (z_gV wd_436 wd_438 wd_7 wd_30 wd_439) rfl rfl rfl (by decide +kernel) ⟨Nat.le_of_ble_eq_true rfl, Nat.le_of_ble_eq_true rfl⟩) (zr_preV hK (zt_sub hP [0, 1, 2] rfl) (va_recv (q0 := 0) hK hP (q := (RGR, TGR, 6)) rfl rfl) [0] rfl z_true (fun _ _ _ => trivial)) rfl rfl hl.1 rfl (lv_room (Nat.le_of_ble_eq_true rfl)) dGR_countEmptyRows_15 ⟨Nat.le_of_ble_eq_true rfl, Nat.le_of_ble_eq_true rfl⟩) (fun rb h_rb => ?_)
    have h_rb : z_yn rb (∃ k, k < n ∧ d 1 k = i) := h_rb
    refine lv_if_eq (tgt := 25) hx hb dGR_countEmptyRows_18 rfl (fun h_b => ?_) (fun h_b => ?_)
    · have h_b := z_yF h_rb h_b
      refine lv_iconst (v := nI 1) hx hb dGR_countEmptyRows_25 (by decide) ?_
      refine lv_iadd hx hb dGR_countEmptyRows_26 ?_
      refine lv_topi (fun x6 e7 => ?_)
      have e7 : x6 = nI (zCn (zEc n (d 1)) (i + 1)) := e7.trans (by rw [zCn_T (P := zEc n (d 1)) h_b]; exact nI_add _ _)
      subst e7
      refine lv_istore_n hx hb dGR_countEmptyRows_27 rfl hl (Nat.le_of_ble_eq_true rfl) rfl (fun ls hl => ?_)
      have hl : lv_has ls 3 [(1, .int (nI (zCn (zEc n (d 1)) (i + 1)))), (2, .int (nI i)), (0, .ref g)] := hl
      refine lv_iinc (k := 1) (v := nI (i + 1)) hx hb dGR_countEmptyRows_28 hl rfl (by rw [show Int32.ofInt 1 = nI 1 from by decide]; exact nI_add _ _) (Nat.le_of_ble_eq_true rfl) rfl (fun ls hl => ?_)
      have hl : lv_has ls 3 [(2, .int (nI (i + 1))), (1, .int (nI (zCn (zEc n (d 1)) (i + 1)))), (0, .ref g)] := hl
      refine lv_goto (tgt := 4) hx hb dGR_countEmptyRows_31 rfl ?_
      exact ih () ls (lv_sub hl [0, 1, 2] rfl)
    · have h_b := z_yT h_rb h_b
      refine lv_iconst (v := nI 0) hx hb dGR_countEmptyRows_21 (by decide) ?_
      refine lv_goto (tgt := 26) hx hb dGR_countEmptyRows_22 rfl ?_
      refine lv_iadd hx hb dGR_countEmptyRows_26 ?_
      refine lv_topi (fun x8 e9 => ?_)
      have e9 : x8 = nI (zCn (zEc n (d 1)) (i + 1)) := e9.trans (by rw [zCn_F (P := zEc n (d 1)) (fun h => h h_b)]; exact nI_add _ 0)
      subst e9
      refine lv_istore_n hx hb dGR_countEmptyRows_27 rfl hl (Nat.le_of_ble_eq_true rfl) rfl (fun ls hl => ?_)
      have hl : lv_has ls 3 [(1, .int (nI (zCn (zEc n (d 1)) (i + 1)))), (2, .int (nI i)), (0, .ref g)] := hl
      refine lv_iinc (k := 1) (v := nI (i + 1)) hx hb dGR_countEmptyRows_28 hl rfl (by rw [show Int32.ofInt 1 = nI 1 from by decide]; exact nI_add _ _) (Nat.le_of_ble_eq_true rfl) rfl (fun ls hl => ?_)
      have hl : lv_has ls 3 [(2, .int (nI (i + 1))), (1, .int (nI (zCn (zEc n (d 1)) (i + 1)))), (0, .ref g)] := hl
      refine lv_goto (tgt := 4) hx hb dGR_countEmptyRows_31 rfl ?_
      exact ih () ls (lv_sub hl [0, 1, 2] rfl)
end
section
set_option maxHeartbeats 4000000 in
set_option maxRecDepth 100000 in
theorem f_GR_countOwnedSlots (l : Launch) (dC : Nat → ClassId) (dI : Nat → Nat → Nat) (g : Nat) (gr : Nat) (gs : Nat) (bg : Nat) (re : Nat) (ce : Nat) (al : Nat) (ed : Nat) (cE : ClassId) (cap : Nat) (a : Nat → Option Nat) (mo : Int32) (n : Nat) (ad : Nat → Nat) (d : Nat → Nat → Nat) (hn : n ≤ cap) (hc : cap < 2147483648) (ha : ∀ k, k < n → a k = some (ad k)) (hd : ∀ j k, k < n → d j k ≤ 1000) (hg : gr ≤ 1000 ∧ gs ≤ 1000 ∧ bg ≤ 1000 ∧ re ≤ 1000 ∧ ce ≤ 1000) : zp_M l yGR_countOwnedSlots wGR_countOwnedSlots ({ frames := 4, cells := 0, slots := 0, locals := 87 }) [.ref g] (dC, dI) vwCl ([(g, .inr (1, [.ref al, .int (nI gr), .int (nI gs), .int (nI bg), .int (nI re), .int (nI ce)])), (al, .inr (2, [.ref ed, .int (nI n), .int mo])), (ed, .inl (cE, cap, .inr (.inr (.inr (.inr a)))))] ++ zcs n ad (zcf d)) [(cE, .object "java/lang/Object")] (fun _ => True) (fun r => r = nI (zSum (fun y => zCn (fun x => zOwd n d x y) ce) re)) := by
  refine zp_head (cc := cGR_countOwnedSlots) (maxL := 4) (ret := (some .int)) (by decide +kernel) rfl (Nat.le_of_ble_eq_true rfl) ?_
  intro p e s m below meth c ls F hP hK hX hl
  obtain ⟨hx, hb, hml, hr, hlocks, hown, hts⟩ := F
  have hown : s.vm.findClass "SpannedCells$Grid" = some m.cls := hown
  have hz : ∀ w9 ∈ zT, w9.before [.ref g].toArray s = true := fun w9 h => hts w9 (List.mem_cons_of_mem _ h)
  have hl : lv_has ls 4 [(0, .ref g)] := hl
  refine z_q (fun Q hQ => ?_)
  refine lv_iconst (v := nI 0) hx hb dGR_countOwnedSlots_0 (by decide) ?_
  refine lv_istore_n hx hb dGR_countOwnedSlots_1 rfl hl (Nat.le_of_ble_eq_true rfl) rfl (fun ls hl => ?_)
  have hl : lv_has ls 4 [(1, .int (nI 0)), (0, .ref g)] := hl
  refine lv_iconst (v := nI 0) hx hb dGR_countOwnedSlots_2 (by decide) ?_
  refine lv_istore_n hx hb dGR_countOwnedSlots_3 rfl hl (Nat.le_of_ble_eq_true rfl) rfl (fun ls hl => ?_)
  have hl : lv_has ls 4 [(2, .int (nI 0)), (1, .int (nI 0)), (0, .ref g)] := hl
  refine zl_up (σ := Unit) re (fun i x9 ls => lv_has ls 4 [(2, .int (nI i)), (1, .int (nI (zSum (fun y => zCn (fun x => zOwd n d x y) ce) i))), (0, .ref g)]) ?_ ?_ 0 (Nat.zero_le _) () ls (lv_sub hl [0, 1, 2] rfl)
  · intro x9 ls hI
    have hl := hI
    have hl : lv_has ls 4 [(2, .int (nI re)), (1, .int (nI (zSum (fun y => zCn (fun x => zOwd n d x y) ce) re))), (0, .ref g)] := hl
    refine lv_iload_n hx hb dGR_countOwnedSlots_4 rfl (lv_at hl 0 rfl) ?_
    refine lv_aload_n hx hb dGR_countOwnedSlots_5 rfl (lv_at hl 2 rfl) ?_
    refine va_get (D := (dC, dI)) (ci := 1) (v := .int (nI re)) (C := RGR) (T := TGR) (N := 6) hx hb hz in_GR hown hK hP 0 rfl rfl 4 (by decide) (hz _ wd_89) (fun _ h9 => h9) rfl dGR_countOwnedSlots_6 ?_
    have t1 := nI_toInt (n := re) (by omega)
    have t2 := nI_toInt (n := re) (by omega)
    refine lv_icmp_ge (tgt := 52) hx hb dGR_countOwnedSlots_9 rfl (fun _ => ?_) (fun h => by have h := z_nle h; omega)
    refine lv_iload_n hx hb dGR_countOwnedSlots_52 rfl (lv_at hl 1 rfl) ?_
    subst hQ
    exact zp_iret hx hb hr hlocks (rfl) dGR_countOwnedSlots_53
  · intro i hi ih
    intro x9 ls hI
    have hl := hI
    have hl : lv_has ls 4 [(2, .int (nI i)), (1, .int (nI (zSum (fun y => zCn (fun x => zOwd n d x y) ce) i))), (0, .ref g)] := hl
    refine lv_iload_n hx hb dGR_countOwnedSlots_4 rfl (lv_at hl 0 rfl) ?_
    refine lv_aload_n hx hb dGR_countOwnedSlots_5 rfl (lv_at hl 2 rfl) ?_
    refine va_get (D := (dC, dI)) (ci := 1) (v := .int (nI re)) (C := RGR) (T := TGR) (N := 6) hx hb hz in_GR hown hK hP 0 rfl rfl 4 (by decide) (hz _ wd_89) (fun _ h9 => h9) rfl dGR_countOwnedSlots_6 ?_
    have t3 := nI_toInt (n := i) (by omega)
    have t4 := nI_toInt (n := re) (by omega)
    refine lv_icmp_ge (tgt := 52) hx hb dGR_countOwnedSlots_9 rfl (fun h => by have h := z_le h; omega) (fun _ => ?_)
    refine lv_iconst (v := nI 0) hx hb dGR_countOwnedSlots_12 (by decide) ?_
    refine lv_istore_n hx hb dGR_countOwnedSlots_13 rfl hl (Nat.le_of_ble_eq_true rfl) rfl (fun ls hl => ?_)
    have hl : lv_has ls 4 [(3, .int (nI 0)), (2, .int (nI i)), (1, .int (nI (zSum (fun y => zCn (fun x => zOwd n d x y) ce) i))), (0, .ref g)] := hl
    refine zl_up (σ := Unit) ce (fun j x9 ls => lv_has ls 4 [(3, .int (nI j)), (2, .int (nI i)), (1, .int (nI (zSum (fun y => zCn (fun x => zOwd n d x y) ce) i + zCn (fun x => zOwd n d x i) j))), (0, .ref g)]) ?_ ?_ 0 (Nat.zero_le _) () ls (lv_sub hl [0, 1, 2, 3] rfl)
    · intro x9 ls hI
      have hl := hI
      have hl : lv_has ls 4 [(3, .int (nI ce)), (2, .int (nI i)), (1, .int (nI (zSum (fun y => zCn (fun x => zOwd n d x y) ce) i + zCn (fun x => zOwd n d x i) ce))), (0, .ref g)] := hl
      refine lv_iload_n hx hb dGR_countOwnedSlots_14 rfl (lv_at hl 0 rfl) ?_
      refine lv_aload_n hx hb dGR_countOwnedSlots_15 rfl (lv_at hl 3 rfl) ?_
      refine va_get (D := (dC, dI)) (ci := 1) (v := .int (nI ce)) (C := RGR) (T := TGR) (N := 6) hx hb hz in_GR hown hK hP 0 rfl rfl 5 (by decide) (hz _ wd_90) (fun _ h9 => h9) rfl dGR_countOwnedSlots_16 ?_
      have t5 := nI_toInt (n := ce) (by omega)
      have t6 := nI_toInt (n := ce) (by omega)
      refine lv_icmp_ge (tgt := 46) hx hb dGR_countOwnedSlots_19 rfl (fun _ => ?_) (fun h => by have h := z_nle h; omega)
      refine lv_iinc (k := 1) (v := nI (i + 1)) hx hb dGR_countOwnedSlots_46 hl rfl (by rw [show Int32.ofInt 1 = nI 1 from by decide]; exact nI_add _ _) (Nat.le_of_ble_eq_true rfl) rfl (fun ls hl => ?_)
      have hl : lv_has ls 4 [(2, .int (nI (i + 1))), (3, .int (nI ce)), (1, .int (nI (zSum (fun y => zCn (fun x => zOwd n d x y) ce) i + zCn (fun x => zOwd n d x i) ce))), (0, .ref g)] := hl
      refine lv_goto (tgt := 4) hx hb dGR_countOwnedSlots_49 rfl ?_
      exact ih () ls (lv_sub hl [0, 2, 3] rfl)
    · intro j hj jh
      intro x9 ls hI
      have hl := hI
      have hl : lv_has ls 4 [(3, .int (nI j)), (2, .int (nI i)), (1, .int (nI (zSum (fun y => zCn (fun x => zOwd n d x y) ce) i + zCn (fun x => zOwd n d x i) j))), (0, .ref g)] := hl
      refine lv_iload_n hx hb dGR_countOwnedSlots_14 rfl (lv_at hl 0 rfl) ?_
      refine lv_aload_n hx hb dGR_countOwnedSlots_15 rfl (lv_at hl 3 rfl) ?_
      refine va_get (D := (dC, dI)) (ci := 1) (v := .int (nI ce)) (C := RGR) (T := TGR) (N := 6) hx hb hz in_GR hown hK hP 0 rfl rfl 5 (by decide) (hz _ wd_90) (fun _ h9 => h9) rfl dGR_countOwnedSlots_16 ?_
      have t7 := nI_toInt (n := j) (by omega)
      have t8 := nI_toInt (n := ce) (by omega)
      refine lv_icmp_ge (tgt := 46) hx hb dGR_countOwnedSlots_19 rfl (fun h => by have h := z_le h; omega) (fun _ => ?_)
      refine lv_iload_n hx hb dGR_countOwnedSlots_22 rfl (lv_at hl 2 rfl) ?_
      refine lv_aload_n hx hb dGR_countOwnedSlots_23 rfl (lv_at hl 3 rfl) ?_
      refine lv_iload_n hx hb dGR_countOwnedSlots_24 rfl (lv_at hl 0 rfl) ?_
      refine lv_iload_n hx hb dGR_countOwnedSlots_25 rfl (lv_at hl 1 rfl) ?_
      refine vp_callSi (W.runV (As := [.int (nI j), .int (nI i)]) (rest := [.int (nI (zSum (fun y => zCn (fun x => zOwd n d x y) ce) i + zCn (fun x => zOwd n d x i) j))]) ⟨hx, hb, hml, hown, hz⟩ (f_GR_ownerOf l dC dI g gr gs bg re ce al ed cE cap a mo n ad d (nI j) (nI i) (by omega) (by omega) (ha) (hd) (hg)) (cwV 2 hz (z_gV wd_230 wd_231 wd_232 wd_30 wd_233) rfl rfl rfl (by decide +kernel) ⟨Nat.le_of_ble_eq_true rfl, Nat.le_of_ble_eq_true rfl⟩) (zr_preV hK (zt_sub hP [0, 1, 2] rfl) (va_recv (q0 := 0) hK hP (q := (RGR, TGR, 6)) rfl rfl) [0] rfl z_true (fun _ _ _ => trivial)) rfl rfl hl.1 rfl (lv_room (Nat.le_of_ble_eq_true rfl)) dGR_countOwnedSlots_26 ⟨Nat.le_of_ble_eq_true rfl, Nat.le_of_ble_eq_true rfl⟩) (fun ro h_ro => ?_)
      have h_ro : zFst n (fun k => zTd d k (nI j) (nI i)) ro := h_ro
      have h_o := zFst_none (by omega) (by omega) (by omega) h_ro
      refine lv_iconst (v := (-1)) hx hb dGR_countOwnedSlots_29 (by decide) ?_
      have t9 := z_m1
      refine lv_icmp_ne (tgt := 37) hx hb dGR_countOwnedSlots_30 rfl (fun h_b => ?_) (fun h_b => ?_)
      · have h_b := z_ne h_b
        refine lv_iconst (v := nI 1) hx hb dGR_countOwnedSlots_37 (by decide) ?_
        refine lv_iadd hx hb dGR_countOwnedSlots_38 ?_
        refine lv_topi (fun x11 e12 => ?_)
        have e12 : x11 = nI (zSum (fun y => zCn (fun x => zOwd n d x y) ce) i + zCn (fun x => zOwd n d x i) (j + 1)) := e12.trans (by rw [zCn_T (P := fun x => zOwd n d x i) (Classical.byContradiction (fun h => absurd (h_o.mpr h) (by omega)))]; exact nI_add _ 1)
        subst e12
        refine lv_istore_n hx hb dGR_countOwnedSlots_39 rfl hl (Nat.le_of_ble_eq_true rfl) rfl (fun ls hl => ?_)
        have hl : lv_has ls 4 [(1, .int (nI (zSum (fun y => zCn (fun x => zOwd n d x y) ce) i + zCn (fun x => zOwd n d x i) (j + 1)))), (3, .int (nI j)), (2, .int (nI i)), (0, .ref g)] := hl
        refine lv_iinc (k := 1) (v := nI (j + 1)) hx hb dGR_countOwnedSlots_40 hl rfl (by rw [show Int32.ofInt 1 = nI 1 from by decide]; exact nI_add _ _) (Nat.le_of_ble_eq_true rfl) rfl (fun ls hl => ?_)
        have hl : lv_has ls 4 [(3, .int (nI (j + 1))), (1, .int (nI (zSum (fun y => zCn (fun x => zOwd n d x y) ce) i + zCn (fun x => zOwd n d x i) (j + 1)))), (2, .int (nI i)), (0, .ref g)] := hl
        refine lv_goto (tgt := 14) hx hb dGR_countOwnedSlots_43 rfl ?_
        exact jh () ls (lv_sub hl [0, 2, 1, 3] rfl)
      · have h_b := z_eq h_b
        refine lv_iconst (v := nI 0) hx hb dGR_countOwnedSlots_33 (by decide) ?_
        refine lv_goto (tgt := 38) hx hb dGR_countOwnedSlots_34 rfl ?_
        refine lv_iadd hx hb dGR_countOwnedSlots_38 ?_
        refine lv_topi (fun x13 e14 => ?_)
        have e14 : x13 = nI (zSum (fun y => zCn (fun x => zOwd n d x y) ce) i + zCn (fun x => zOwd n d x i) (j + 1)) := e14.trans (by rw [zCn_F (P := fun x => zOwd n d x i) (h_o.mp (by omega))]; exact nI_add _ 0)
        subst e14
        refine lv_istore_n hx hb dGR_countOwnedSlots_39 rfl hl (Nat.le_of_ble_eq_true rfl) rfl (fun ls hl => ?_)
        have hl : lv_has ls 4 [(1, .int (nI (zSum (fun y => zCn (fun x => zOwd n d x y) ce) i + zCn (fun x => zOwd n d x i) (j + 1)))), (3, .int (nI j)), (2, .int (nI i)), (0, .ref g)] := hl
        refine lv_iinc (k := 1) (v := nI (j + 1)) hx hb dGR_countOwnedSlots_40 hl rfl (by rw [show Int32.ofInt 1 = nI 1 from by decide]; exact nI_add _ _) (Nat.le_of_ble_eq_true rfl) rfl (fun ls hl => ?_)
        have hl : lv_has ls 4 [(3, .int (nI (j + 1))), (1, .int (nI (zSum (fun y => zCn (fun x => zOwd n d x y) ce) i + zCn (fun x => zOwd n d x i) (j + 1)))), (2, .int (nI i)), (0, .ref g)] := hl
        refine lv_goto (tgt := 14) hx hb dGR_countOwnedSlots_43 rfl ?_
        exact jh () ls (lv_sub hl [0, 2, 1, 3] rfl)

set_option maxHeartbeats 4000000 in
set_option maxRecDepth 100000 in
theorem f_GR_countOverlaps (l : Launch) (dC : Nat → ClassId) (dI : Nat → Nat → Nat) (g : Nat) (gr : Nat) (gs : Nat) (bg : Nat) (re : Nat) (ce : Nat) (al : Nat) (ed : Nat) (cE : ClassId) (cap : Nat) (a : Nat → Option Nat) (mo : Int32) (n : Nat) (ad : Nat → Nat) (d : Nat → Nat → Nat) (hn : n ≤ cap) (hc : cap < 2147483648) (ha : ∀ k, k < n → a k = some (ad k)) (hd : ∀ j k, k < n → d j k ≤ 1000) (hg : gr ≤ 1000 ∧ gs ≤ 1000 ∧ bg ≤ 1000 ∧ re ≤ 1000 ∧ ce ≤ 1000) : zp_M l yGR_countOverlaps wGR_countOverlaps ({ frames := 5, cells := 0, slots := 0, locals := 110 }) [.ref g] (dC, dI) vwCl ([(g, .inr (1, [.ref al, .int (nI gr), .int (nI gs), .int (nI bg), .int (nI re), .int (nI ce)])), (al, .inr (2, [.ref ed, .int (nI n), .int mo])), (ed, .inl (cE, cap, .inr (.inr (.inr (.inr a)))))] ++ zcs n ad (zcf d)) [(cE, .object "java/lang/Object")] (fun _ => True) (fun r => r = nI (zSum (fun k => d 2 k * d 7 k) n) - nI (zSum (fun y => zCn (fun x => zOwd n d x y) ce) re)) := by
  refine zp_head (cc := cGR_countOverlaps) (maxL := 3) (ret := (some .int)) (by decide +kernel) rfl (Nat.le_of_ble_eq_true rfl) ?_
  intro p e s m below meth c ls F hP hK hX hl
  obtain ⟨hx, hb, hml, hr, hlocks, hown, hts⟩ := F
  have hown : s.vm.findClass "SpannedCells$Grid" = some m.cls := hown
  have hz : ∀ w9 ∈ zT, w9.before [.ref g].toArray s = true := fun w9 h => hts w9 (List.mem_cons_of_mem _ h)
  have hl : lv_has ls 3 [(0, .ref g)] := hl
  refine z_q (fun Q hQ => ?_)
  refine lv_iconst (v := nI 0) hx hb dGR_countOverlaps_0 (by decide) ?_
  refine lv_istore_n hx hb dGR_countOverlaps_1 rfl hl (Nat.le_of_ble_eq_true rfl) rfl (fun ls hl => ?_)
  have hl : lv_has ls 3 [(1, .int (nI 0)), (0, .ref g)] := hl
  refine lv_iconst (v := nI 0) hx hb dGR_countOverlaps_2 (by decide) ?_
  refine lv_istore_n hx hb dGR_countOverlaps_3 rfl hl (Nat.le_of_ble_eq_true rfl) rfl (fun ls hl => ?_)
  have hl : lv_has ls 3 [(2, .int (nI 0)), (1, .int (nI 0)), (0, .ref g)] := hl
  refine zl_up (σ := Unit) n (fun i x9 ls => lv_has ls 3 [(2, .int (nI i)), (1, .int (nI (zSum (fun k => d 2 k * d 7 k) i))), (0, .ref g)]) ?_ ?_ 0 (Nat.zero_le _) () ls (lv_sub hl [0, 1, 2] rfl)
  · intro x9 ls hI
    have hl := hI
    have hl : lv_has ls 3 [(2, .int (nI n)), (1, .int (nI (zSum (fun k => d 2 k * d 7 k) n))), (0, .ref g)] := hl
    refine lv_iload_n hx hb dGR_countOverlaps_4 rfl (lv_at hl 0 rfl) ?_
    refine lv_aload_n hx hb dGR_countOverlaps_5 rfl (lv_at hl 2 rfl) ?_
    refine va_get (D := (dC, dI)) (ci := 1) (v := .ref al) (C := RGR) (T := TGR) (N := 6) hx hb hz in_GR hown hK hP 0 rfl rfl 0 (by decide) (hz _ wd_85) (fun _ h9 => h9) rfl dGR_countOverlaps_6 ?_
    refine vp_callSi (W.runV (As := []) (rest := [.int (nI n)]) ⟨hx, hb, hml, hown, hz⟩ (f_AL_size l dC dI al ed mo n ) (cwV 0 hz (z_gV wd_192 wd_193 wd_194 wd_33 wd_195) rfl rfl rfl (by decide +kernel) ⟨Nat.le_of_ble_eq_true rfl, Nat.le_of_ble_eq_true rfl⟩) (zr_preV hK (hP.sub [1] rfl) (va_recv (q0 := 1) hK hP (q := (RAL, TAL, 3)) rfl rfl) [] rfl z_true (fun _ _ _ => trivial)) rfl rfl hl.1 rfl (lv_room (Nat.le_of_ble_eq_true rfl)) dGR_countOverlaps_9 ⟨Nat.le_of_ble_eq_true rfl, Nat.le_of_ble_eq_true rfl⟩) (fun r1 h_r1 => ?_)
    have h_r1 : r1 = nI n := h_r1
    subst h_r1
    have t2 := nI_toInt (n := n) (by omega)
    have t3 := nI_toInt (n := n) (by omega)
    refine lv_icmp_ge (tgt := 53) hx hb dGR_countOverlaps_12 rfl (fun _ => ?_) (fun h => by have h := z_nle h; omega)
    refine lv_iload_n hx hb dGR_countOverlaps_53 rfl (lv_at hl 1 rfl) ?_
    refine lv_aload_n hx hb dGR_countOverlaps_54 rfl (lv_at hl 2 rfl) ?_
    refine vp_callSi (W.runV (As := []) (rest := [.int (nI (zSum (fun k => d 2 k * d 7 k) n))]) ⟨hx, hb, hml, hown, hz⟩ (f_GR_countOwnedSlots l dC dI g gr gs bg re ce al ed cE cap a mo n ad d (by omega) (by omega) (ha) (hd) (hg)) (cwV 0 hz (z_gV wd_416 wd_418 wd_5 wd_30 wd_419) rfl rfl rfl (by decide +kernel) ⟨Nat.le_of_ble_eq_true rfl, Nat.le_of_ble_eq_true rfl⟩) (zr_preV hK (zt_sub hP [0, 1, 2] rfl) (va_recv (q0 := 0) hK hP (q := (RGR, TGR, 6)) rfl rfl) [0] rfl z_true (fun _ _ _ => trivial)) rfl rfl hl.1 rfl (lv_room (Nat.le_of_ble_eq_true rfl)) dGR_countOverlaps_55 ⟨Nat.le_of_ble_eq_true rfl, Nat.le_of_ble_eq_true rfl⟩) (fun r4 h_r4 => ?_)
    have h_r4 : r4 = nI (zSum (fun y => zCn (fun x => zOwd n d x y) ce) re) := h_r4
    subst h_r4
    refine lv_isub hx hb dGR_countOverlaps_58 ?_
    subst hQ
    exact zp_iret hx hb hr hlocks (rfl) dGR_countOverlaps_59
  · intro i hi ih
    intro x9 ls hI
    have hl := hI
    have hl : lv_has ls 3 [(2, .int (nI i)), (1, .int (nI (zSum (fun k => d 2 k * d 7 k) i))), (0, .ref g)] := hl
    refine lv_iload_n hx hb dGR_countOverlaps_4 rfl (lv_at hl 0 rfl) ?_
    refine lv_aload_n hx hb dGR_countOverlaps_5 rfl (lv_at hl 2 rfl) ?_
    refine va_get (D := (dC, dI)) (ci := 1) (v := .ref al) (C := RGR) (T := TGR) (N := 6) hx hb hz in_GR hown hK hP 0 rfl rfl 0 (by decide) (hz _ wd_85) (fun _ h9 => h9) rfl dGR_countOverlaps_6 ?_
    refine vp_callSi (W.runV (As := []) (rest := [.int (nI i)]) ⟨hx, hb, hml, hown, hz⟩ (f_AL_size l dC dI al ed mo n ) (cwV 0 hz (z_gV wd_192 wd_193 wd_194 wd_33 wd_195) rfl rfl rfl (by decide +kernel) ⟨Nat.le_of_ble_eq_true rfl, Nat.le_of_ble_eq_true rfl⟩) (zr_preV hK (hP.sub [1] rfl) (va_recv (q0 := 1) hK hP (q := (RAL, TAL, 3)) rfl rfl) [] rfl z_true (fun _ _ _ => trivial)) rfl rfl hl.1 rfl (lv_room (Nat.le_of_ble_eq_true rfl)) dGR_countOverlaps_9 ⟨Nat.le_of_ble_eq_true rfl, Nat.le_of_ble_eq_true rfl⟩) (fun r5 h_r5 => ?_)
    have h_r5 : r5 = nI n := h_r5
    subst h_r5
    have t6 := nI_toInt (n := i) (by omega)
    have t7 := nI_toInt (n := n) (by omega)
    refine lv_icmp_ge (tgt := 53) hx hb dGR_countOverlaps_12 rfl (fun h => by have h := z_le h; omega) (fun _ => ?_)
    refine lv_iload_n hx hb dGR_countOverlaps_15 rfl (lv_at hl 1 rfl) ?_
    refine lv_aload_n hx hb dGR_countOverlaps_16 rfl (lv_at hl 2 rfl) ?_
    refine va_get (D := (dC, dI)) (ci := 1) (v := .ref al) (C := RGR) (T := TGR) (N := 6) hx hb hz in_GR hown hK hP 0 rfl rfl 0 (by decide) (hz _ wd_85) (fun _ h9 => h9) rfl dGR_countOverlaps_17 ?_
    refine lv_iload_n hx hb dGR_countOverlaps_20 rfl (lv_at hl 0 rfl) ?_
    refine va_csr (W.runV (As := [.int (nI i)]) (rest := [.int (nI (zSum (fun k => d 2 k * d 7 k) i))]) ⟨hx, hb, hml, hown, hz⟩ (f_AL_get l dC dI al ed cE cap a mo n i (ad i) (by omega) (by omega) (by omega) (ha _ (by omega))) (cwV 1 hz (z_gV wd_196 wd_197 wd_198 wd_33 wd_199) rfl rfl rfl (by decide +kernel) ⟨Nat.le_of_ble_eq_true rfl, Nat.le_of_ble_eq_true rfl⟩) (zr_preV hK (hP.sub [1, 2] rfl) (va_recv (q0 := 1) hK hP (q := (RAL, TAL, 3)) rfl rfl) [0] rfl z_true (fun _ _ _ => trivial)) rfl rfl hl.1 rfl (lv_room (Nat.le_of_ble_eq_true rfl)) dGR_countOverlaps_21 ⟨Nat.le_of_ble_eq_true rfl, Nat.le_of_ble_eq_true rfl⟩) (fun r8 h_r8 => ?_)
    have h_r8 : r8 = (ad i) := h_r8
    subst h_r8
    refine va_castE hx hb hown (hz _ wd_210) (va_recv hK hP (q := (RCE, TCE, 10)) rfl (zcs_get rfl (by omega))) dGR_countOverlaps_24 ?_
    refine va_get (D := (dC, dI)) (ci := 7) (v := .int (nI (d 2 i))) (C := RCE) (T := TCE) (N := 10) hx hb hz in_CE hown hK hP (3 + i) (zcs_get rfl (by omega)) rfl 2 (by decide) (hz _ wd_263) (fun _ h9 => h9) rfl dGR_countOverlaps_27 ?_
    refine lv_aload_n hx hb dGR_countOverlaps_30 rfl (lv_at hl 2 rfl) ?_
    refine va_get (D := (dC, dI)) (ci := 1) (v := .ref al) (C := RGR) (T := TGR) (N := 6) hx hb hz in_GR hown hK hP 0 rfl rfl 0 (by decide) (hz _ wd_85) (fun _ h9 => h9) rfl dGR_countOverlaps_31 ?_
    refine lv_iload_n hx hb dGR_countOverlaps_34 rfl (lv_at hl 0 rfl) ?_
    refine va_csr (W.runV (As := [.int (nI i)]) (rest := [.int (nI (d 2 i)), .int (nI (zSum (fun k => d 2 k * d 7 k) i))]) ⟨hx, hb, hml, hown, hz⟩ (f_AL_get l dC dI al ed cE cap a mo n i (ad i) (by omega) (by omega) (by omega) (ha _ (by omega))) (cwV 1 hz (z_gV wd_196 wd_197 wd_198 wd_33 wd_199) rfl rfl rfl (by decide +kernel) ⟨Nat.le_of_ble_eq_true rfl, Nat.le_of_ble_eq_true rfl⟩) (zr_preV hK (hP.sub [1, 2] rfl) (va_recv (q0 := 1) hK hP (q := (RAL, TAL, 3)) rfl rfl) [0] rfl z_true (fun _ _ _ => trivial)) rfl rfl hl.1 rfl (lv_room (Nat.le_of_ble_eq_true rfl)) dGR_countOverlaps_35 ⟨Nat.le_of_ble_eq_true rfl, Nat.le_of_ble_eq_true rfl⟩) (fun r9 h_r9 => ?_)
    have h_r9 : r9 = (ad i) := h_r9
    subst h_r9
    refine va_castE hx hb hown (hz _ wd_210) (va_recv hK hP (q := (RCE, TCE, 10)) rfl (zcs_get rfl (by omega))) dGR_countOverlaps_38 ?_
    refine va_get (D := (dC, dI)) (ci := 7) (v := .int (nI (d 7 i))) (C := RCE) (T := TCE) (N := 10) hx hb hz in_CE hown hK hP (3 + i) (zcs_get rfl (by omega)) rfl 7 (by decide) (hz _ wd_274) (fun _ h9 => h9) rfl dGR_countOverlaps_41 ?_
    refine lv_imul hx hb dGR_countOverlaps_44 ?_
    refine lv_topi (fun x10 e11 => ?_)
    have e11 : x10 = nI ((d 2 i) * (d 7 i)) := e11.trans (pk_mul _ _)
    subst e11
    refine lv_iadd hx hb dGR_countOverlaps_45 ?_
    refine lv_topi (fun x12 e13 => ?_)
    have e13 : x12 = nI (zSum (fun k => d 2 k * d 7 k) (i + 1)) := e13.trans (nI_add _ _)
    subst e13
    refine lv_istore_n hx hb dGR_countOverlaps_46 rfl hl (Nat.le_of_ble_eq_true rfl) rfl (fun ls hl => ?_)
    have hl : lv_has ls 3 [(1, .int (nI (zSum (fun k => d 2 k * d 7 k) (i + 1)))), (2, .int (nI i)), (0, .ref g)] := hl
    refine lv_iinc (k := 1) (v := nI (i + 1)) hx hb dGR_countOverlaps_47 hl rfl (by rw [show Int32.ofInt 1 = nI 1 from by decide]; exact nI_add _ _) (Nat.le_of_ble_eq_true rfl) rfl (fun ls hl => ?_)
    have hl : lv_has ls 3 [(2, .int (nI (i + 1))), (1, .int (nI (zSum (fun k => d 2 k * d 7 k) (i + 1)))), (0, .ref g)] := hl
    refine lv_goto (tgt := 4) hx hb dGR_countOverlaps_50 rfl ?_
    exact ih () ls (lv_sub hl [0, 1, 2] rfl)

set_option maxHeartbeats 4000000 in
set_option maxRecDepth 100000 in
theorem f_GR_firstFreeColumn (l : Launch) (dC : Nat → ClassId) (dI : Nat → Nat → Nat) (g : Nat) (gr : Nat) (gs : Nat) (bg : Nat) (re : Nat) (ce : Nat) (al : Nat) (ed : Nat) (cE : ClassId) (cap : Nat) (a : Nat → Option Nat) (mo : Int32) (n : Nat) (ad : Nat → Nat) (d : Nat → Nat → Nat) (y : Nat) (hn : n ≤ cap) (hc : cap < 2147483648) (ha : ∀ k, k < n → a k = some (ad k)) (hd : ∀ j k, k < n → d j k ≤ 1000) (hg : gr ≤ 1000 ∧ gs ≤ 1000 ∧ bg ≤ 1000 ∧ re ≤ 1000 ∧ ce ≤ 1000) (hy0 : y < 2147483648) : zp_M l yGR_firstFreeColumn wGR_firstFreeColumn ({ frames := 4, cells := 0, slots := 0, locals := 87 }) [.ref g, .int (nI y)] (dC, dI) vwCl ([(g, .inr (1, [.ref al, .int (nI gr), .int (nI gs), .int (nI bg), .int (nI re), .int (nI ce)])), (al, .inr (2, [.ref ed, .int (nI n), .int mo])), (ed, .inl (cE, cap, .inr (.inr (.inr (.inr a)))))] ++ zcs n ad (zcf d)) [(cE, .object "java/lang/Object")] (fun _ => True) (fun r => ∃ x, r = nI x ∧ x ≤ 12 ∧ (∀ j, j < x → zOwd n d j y) ∧ (x < 12 → ¬ zOwd n d x y)) := by
  refine zp_head (cc := cGR_firstFreeColumn) (maxL := 3) (ret := (some .int)) (by decide +kernel) rfl (Nat.le_of_ble_eq_true rfl) ?_
  intro p e s m below meth c ls F hP hK hX hl
  obtain ⟨hx, hb, hml, hr, hlocks, hown, hts⟩ := F
  have hown : s.vm.findClass "SpannedCells$Grid" = some m.cls := hown
  have hz : ∀ w9 ∈ zT, w9.before [.ref g, .int (nI y)].toArray s = true := fun w9 h => hts w9 (List.mem_cons_of_mem _ h)
  have hl : lv_has ls 3 [(0, .ref g), (1, .int (nI y))] := hl
  refine z_q (fun Q hQ => ?_)
  refine lv_iconst (v := nI 0) hx hb dGR_firstFreeColumn_0 (by decide) ?_
  refine lv_istore_n hx hb dGR_firstFreeColumn_1 rfl hl (Nat.le_of_ble_eq_true rfl) rfl (fun ls hl => ?_)
  have hl : lv_has ls 3 [(2, .int (nI 0)), (0, .ref g), (1, .int (nI y))] := hl
  refine zl_up (σ := Unit) 12 (fun i x9 ls => lv_has ls 3 [(2, .int (nI i)), (1, .int (nI y)), (0, .ref g)] ∧ (∀ j, j < i → zOwd n d j y)) ?_ ?_ 0 (by decide) () ls ⟨lv_sub hl [0, 2, 1] rfl, fun k hk => absurd hk (Nat.not_lt_zero _)⟩
  · intro x9 ls hI
    obtain ⟨hl, hxI⟩ := hI
    have hl : lv_has ls 3 [(2, .int (nI 12)), (1, .int (nI y)), (0, .ref g)] := hl
    refine lv_iload_n hx hb dGR_firstFreeColumn_2 rfl (lv_at hl 0 rfl) ?_
    refine lv_bipush (v := nI 12) hx hb dGR_firstFreeColumn_3 (by decide) ?_
    refine lv_icmp_ge (tgt := 26) hx hb dGR_firstFreeColumn_5 rfl (fun _ => ?_) (fun h => absurd (by decide) h)
    refine lv_bipush (v := nI 12) hx hb dGR_firstFreeColumn_26 (by decide) ?_
    subst hQ
    exact zp_iret hx hb hr hlocks (⟨12, rfl, by omega, hxI, fun h => absurd h (by omega)⟩) dGR_firstFreeColumn_28
  · intro i hi ih
    intro x9 ls hI
    obtain ⟨hl, hxI⟩ := hI
    have hl : lv_has ls 3 [(2, .int (nI i)), (1, .int (nI y)), (0, .ref g)] := hl
    refine lv_iload_n hx hb dGR_firstFreeColumn_2 rfl (lv_at hl 0 rfl) ?_
    refine lv_bipush (v := nI 12) hx hb dGR_firstFreeColumn_3 (by decide) ?_
    have t1 := nI_toInt (n := i) (by omega)
    have t2 := nI_toInt (n := 12) (by omega)
    refine lv_icmp_ge (tgt := 26) hx hb dGR_firstFreeColumn_5 rfl (fun h => by have h := z_le h; omega) (fun _ => ?_)
    refine lv_aload_n hx hb dGR_firstFreeColumn_8 rfl (lv_at hl 2 rfl) ?_
    refine lv_iload_n hx hb dGR_firstFreeColumn_9 rfl (lv_at hl 0 rfl) ?_
    refine lv_iload_n hx hb dGR_firstFreeColumn_10 rfl (lv_at hl 1 rfl) ?_
    refine vp_callSi (W.runV (As := [.int (nI i), .int (nI y)]) (rest := []) ⟨hx, hb, hml, hown, hz⟩ (f_GR_ownerOf l dC dI g gr gs bg re ce al ed cE cap a mo n ad d (nI i) (nI y) (by omega) (by omega) (ha) (hd) (hg)) (cwV 2 hz (z_gV wd_230 wd_231 wd_232 wd_30 wd_233) rfl rfl rfl (by decide +kernel) ⟨Nat.le_of_ble_eq_true rfl, Nat.le_of_ble_eq_true rfl⟩) (zr_preV hK (zt_sub hP [0, 1, 2] rfl) (va_recv (q0 := 0) hK hP (q := (RGR, TGR, 6)) rfl rfl) [0] rfl z_true (fun _ _ _ => trivial)) rfl rfl hl.1 rfl (lv_room (Nat.le_of_ble_eq_true rfl)) dGR_firstFreeColumn_11 ⟨Nat.le_of_ble_eq_true rfl, Nat.le_of_ble_eq_true rfl⟩) (fun ro h_ro => ?_)
    have h_ro : zFst n (fun k => zTd d k (nI i) (nI y)) ro := h_ro
    have h_o := zFst_none (by omega) (by omega) (by omega) h_ro
    refine lv_iconst (v := (-1)) hx hb dGR_firstFreeColumn_14 (by decide) ?_
    have t3 := z_m1
    refine lv_icmp_ne (tgt := 20) hx hb dGR_firstFreeColumn_15 rfl (fun h_b => ?_) (fun h_b => ?_)
    · have h_b := z_ne h_b
      refine lv_iinc (k := 0) (v := nI (i + 1)) hx hb dGR_firstFreeColumn_20 hl rfl (by rw [show Int32.ofInt 1 = nI 1 from by decide]; exact nI_add _ _) (Nat.le_of_ble_eq_true rfl) rfl (fun ls hl => ?_)
      have hl : lv_has ls 3 [(2, .int (nI (i + 1))), (1, .int (nI y)), (0, .ref g)] := hl
      refine lv_goto (tgt := 2) hx hb dGR_firstFreeColumn_23 rfl ?_
      exact ih () ls ⟨lv_sub hl [0, 1, 2] rfl, lt_s hxI (Classical.byContradiction (fun h => absurd (h_o.mpr h) (by omega)))⟩
    · have h_b := z_eq h_b
      refine lv_iload_n hx hb dGR_firstFreeColumn_18 rfl (lv_at hl 0 rfl) ?_
      subst hQ
      exact zp_iret hx hb hr hlocks (⟨i, rfl, by omega, hxI, fun _ => h_o.mp (by omega)⟩) dGR_firstFreeColumn_19

set_option maxHeartbeats 4000000 in
set_option maxRecDepth 100000 in
theorem f_GR_hasSlot (l : Launch) (dC : Nat → ClassId) (dI : Nat → Nat → Nat) (g : Nat) (gr : Nat) (gs : Nat) (bg : Nat) (re : Nat) (ce : Nat) (al : Nat) (ed : Nat) (cE : ClassId) (cap : Nat) (a : Nat → Option Nat) (mo : Int32) (n : Nat) (ad : Nat → Nat) (d : Nat → Nat → Nat) (x : Int32) (y : Int32) (hn : n ≤ cap) (hc : cap < 2147483648) (ha : ∀ k, k < n → a k = some (ad k)) (hd : ∀ j k, k < n → d j k ≤ 1000) (hg : gr ≤ 1000 ∧ gs ≤ 1000 ∧ bg ≤ 1000 ∧ re ≤ 1000 ∧ ce ≤ 1000) : zp_M l yGR_hasSlot wGR_hasSlot ({ frames := 1, cells := 0, slots := 0, locals := 22 }) [.ref g, .int x, .int y] (dC, dI) vwCl ([(g, .inr (1, [.ref al, .int (nI gr), .int (nI gs), .int (nI bg), .int (nI re), .int (nI ce)])), (al, .inr (2, [.ref ed, .int (nI n), .int mo])), (ed, .inl (cE, cap, .inr (.inr (.inr (.inr a)))))] ++ zcs n ad (zcf d)) [(cE, .object "java/lang/Object")] zN (fun r => z_yn r ((0 ≤ x.toInt ∧ x.toInt < ce) ∧ (0 ≤ y.toInt ∧ y.toInt < re))) := by
  refine zp_head (cc := cGR_hasSlot) (maxL := 3) (ret := (some .boolean)) (by decide +kernel) rfl (Nat.le_of_ble_eq_true rfl) ?_
  intro p e s m below meth c ls F hP hK hX hl
  obtain ⟨hx, hb, hml, hr, hlocks, hown, hts⟩ := F
  have hown : s.vm.findClass "SpannedCells$Grid" = some m.cls := hown
  have hz : ∀ w9 ∈ zT, w9.before [.ref g, .int x, .int y].toArray s = true := fun w9 h => hts w9 (List.mem_cons_of_mem _ h)
  have hl : lv_has ls 3 [(0, .ref g), (1, .int x), (2, .int y)] := hl
  have hN := hX
  refine z_q (fun Q hQ => ?_)
  refine lv_iload_n hx hb dGR_hasSlot_0 rfl (lv_at hl 1 rfl) ?_
  refine lv_iconst (v := nI 0) hx hb dGR_hasSlot_1 (by decide) ?_
  refine lv_aload_n hx hb dGR_hasSlot_2 rfl (lv_at hl 0 rfl) ?_
  refine va_get (D := (dC, dI)) (ci := 1) (v := .int (nI ce)) (C := RGR) (T := TGR) (N := 6) hx hb hz in_GR hown hK hP 0 rfl rfl 5 (by decide) (hz _ wd_90) (fun _ h9 => h9) rfl dGR_hasSlot_3 ?_
  refine lv_iconst (v := nI 1) hx hb dGR_hasSlot_6 (by decide) ?_
  refine lv_isub hx hb dGR_hasSlot_7 ?_
  refine vp_callSi (va_Run.run (va_runSN (As := [.int x, .int (nI 0), .int ((nI ce) - (nI 1))]) (rest := []) ⟨hx, hb, hml, hown, hz⟩ (f_SC_within l dC dI x (nI 0) ((nI ce) - (nI 1)) ) ⟨va_cnB 3 hz (z_gI wd_221) rfl rfl rfl (hN ("SpannedCells$Grid", 77, ySC_within, "SpannedCells") (List.mem_of_getElem? (i := 5) rfl)) (hz _ wd_29) (by decide +kernel) ⟨Nat.le_of_ble_eq_true rfl, Nat.le_of_ble_eq_true rfl⟩, (hz _ wd_220), trivial⟩ (zr_preS hK (hP.sub [] rfl) [] rfl z_true (fun _ _ _ => trivial)) rfl rfl hl.1 rfl (lv_room (Nat.le_of_ble_eq_true rfl)) dGR_hasSlot_8 ⟨Nat.le_of_ble_eq_true rfl, Nat.le_of_ble_eq_true rfl⟩)) (fun ra h_ra => ?_)
  have h_ra : z_yn ra ((nI 0).toInt ≤ x.toInt ∧ x.toInt ≤ ((nI ce) - (nI 1)).toInt) := h_ra
  have t_a := pk_sub_toInt (a := ce) (b := 1) (by omega) (by omega)
  have t_0 := nI_toInt (n := 0) (by omega)
  refine lv_if_eq (tgt := 32) hx hb dGR_hasSlot_11 rfl (fun h_b => ?_) (fun h_b => ?_)
  · have h_b := z_yF h_ra h_b
    refine lv_iconst (v := nI 0) hx hb dGR_hasSlot_32 (by decide) ?_
    subst hQ
    exact zp_zret hx hb hr hlocks (Or.inl rfl) (z_y0 (by omega)) dGR_hasSlot_33
  · have h_b := z_yT h_ra h_b
    refine lv_iload_n hx hb dGR_hasSlot_14 rfl (lv_at hl 2 rfl) ?_
    refine lv_iconst (v := nI 0) hx hb dGR_hasSlot_15 (by decide) ?_
    refine lv_aload_n hx hb dGR_hasSlot_16 rfl (lv_at hl 0 rfl) ?_
    refine va_get (D := (dC, dI)) (ci := 1) (v := .int (nI re)) (C := RGR) (T := TGR) (N := 6) hx hb hz in_GR hown hK hP 0 rfl rfl 4 (by decide) (hz _ wd_89) (fun _ h9 => h9) rfl dGR_hasSlot_17 ?_
    refine lv_iconst (v := nI 1) hx hb dGR_hasSlot_20 (by decide) ?_
    refine lv_isub hx hb dGR_hasSlot_21 ?_
    refine vp_callSi (va_Run.run (va_runSN (As := [.int y, .int (nI 0), .int ((nI re) - (nI 1))]) (rest := []) ⟨hx, hb, hml, hown, hz⟩ (f_SC_within l dC dI y (nI 0) ((nI re) - (nI 1)) ) ⟨va_cnB 3 hz (z_gI wd_221) rfl rfl rfl (hN ("SpannedCells$Grid", 77, ySC_within, "SpannedCells") (List.mem_of_getElem? (i := 5) rfl)) (hz _ wd_29) (by decide +kernel) ⟨Nat.le_of_ble_eq_true rfl, Nat.le_of_ble_eq_true rfl⟩, (hz _ wd_220), trivial⟩ (zr_preS hK (hP.sub [] rfl) [] rfl z_true (fun _ _ _ => trivial)) rfl rfl hl.1 rfl (lv_room (Nat.le_of_ble_eq_true rfl)) dGR_hasSlot_22 ⟨Nat.le_of_ble_eq_true rfl, Nat.le_of_ble_eq_true rfl⟩)) (fun rb h_rb => ?_)
    have h_rb : z_yn rb ((nI 0).toInt ≤ y.toInt ∧ y.toInt ≤ ((nI re) - (nI 1)).toInt) := h_rb
    have t_b := pk_sub_toInt (a := re) (b := 1) (by omega) (by omega)
    have h_a := h_b
    refine lv_if_eq (tgt := 32) hx hb dGR_hasSlot_25 rfl (fun h_b => ?_) (fun h_b => ?_)
    · have h_b := z_yF h_rb h_b
      refine lv_iconst (v := nI 0) hx hb dGR_hasSlot_32 (by decide) ?_
      subst hQ
      exact zp_zret hx hb hr hlocks (Or.inl rfl) (z_y0 (by omega)) dGR_hasSlot_33
    · have h_b := z_yT h_rb h_b
      refine lv_iconst (v := nI 1) hx hb dGR_hasSlot_28 (by decide) ?_
      refine lv_goto (tgt := 33) hx hb dGR_hasSlot_29 rfl ?_
      subst hQ
      exact zp_zret hx hb hr hlocks (Or.inr rfl) (z_y1 (by omega)) dGR_hasSlot_33

set_option maxHeartbeats 4000000 in
set_option maxRecDepth 100000 in
theorem f_CE_prevailsOver (l : Launch) (dC : Nat → ClassId) (dI : Nat → Nat → Nat) (a : Nat) (f0 : Nat) (f1 : Nat) (f2 : Nat) (f3 : Nat) (f4 : Nat) (f5 : Nat) (f6 : Nat) (f7 : Nat) (f8 : Nat) (f9 : Nat) (a2 : Nat) (e0 : Nat) (e1 : Nat) (e2 : Nat) (e3 : Nat) (e4 : Nat) (e5 : Nat) (e6 : Nat) (e7 : Nat) (e8 : Nat) (e9 : Nat) (hh : f8 ≤ 1000 ∧ f9 ≤ 1000 ∧ e8 ≤ 1000 ∧ e9 ≤ 1000) : zp_M l yCE_prevailsOver wCE_prevailsOver ({ frames := 0, cells := 0, slots := 0, locals := 0 }) [.ref a, .ref a2] (dC, dI) vwCl [(a, .inr (7, [.int (nI f0), .int (nI f1), .int (nI f2), .int (nI f3), .int (nI f4), .int (nI f5), .int (nI f6), .int (nI f7), .int (nI f8), .int (nI f9)])), (a2, .inr (7, [.int (nI e0), .int (nI e1), .int (nI e2), .int (nI e3), .int (nI e4), .int (nI e5), .int (nI e6), .int (nI e7), .int (nI e8), .int (nI e9)]))] [] (fun _ => True) (fun r => z_yn r (zPv f8 f9 e8 e9)) := by
  refine zp_head (cc := cCE_prevailsOver) (maxL := 2) (ret := (some .boolean)) (by decide +kernel) rfl (Nat.le_of_ble_eq_true rfl) ?_
  intro p e s m below meth c ls F hP hK hX hl
  obtain ⟨hx, hb, hml, hr, hlocks, hown, hts⟩ := F
  have hown : s.vm.findClass "SpannedCells$Cell" = some m.cls := hown
  have hz : ∀ w9 ∈ zT, w9.before [.ref a, .ref a2].toArray s = true := fun w9 h => hts w9 (List.mem_cons_of_mem _ h)
  have hl : lv_has ls 2 [(0, .ref a), (1, .ref a2)] := hl
  refine z_q (fun Q hQ => ?_)
  refine lv_aload_n hx hb dCE_prevailsOver_0 rfl (lv_at hl 1 rfl) ?_
  refine va_get (D := (dC, dI)) (ci := 7) (v := .int (nI e9)) (C := RCE) (T := TCE) (N := 10) hx hb hz in_CE hown hK hP 1 rfl rfl 9 (by decide) (hz _ wd_276) (fun _ h9 => h9) rfl dCE_prevailsOver_1 ?_
  refine lv_iconst (v := nI 4) hx hb dCE_prevailsOver_4 (by decide) ?_
  have t1 := nI_toInt (n := e9) (by omega)
  have t2 := nI_toInt (n := 4) (by omega)
  refine lv_icmp_ne (tgt := 10) hx hb dCE_prevailsOver_5 rfl (fun h3 => ?_) (fun h3 => ?_)
  · have h3 := z_ne h3
    refine lv_aload_n hx hb dCE_prevailsOver_10 rfl (lv_at hl 0 rfl) ?_
    refine va_get (D := (dC, dI)) (ci := 7) (v := .int (nI f9)) (C := RCE) (T := TCE) (N := 10) hx hb hz in_CE hown hK hP 0 rfl rfl 9 (by decide) (hz _ wd_276) (fun _ h9 => h9) rfl dCE_prevailsOver_11 ?_
    refine lv_iconst (v := nI 4) hx hb dCE_prevailsOver_14 (by decide) ?_
    have t4 := nI_toInt (n := f9) (by omega)
    have t5 := nI_toInt (n := 4) (by omega)
    refine lv_icmp_ne (tgt := 20) hx hb dCE_prevailsOver_15 rfl (fun h6 => ?_) (fun h6 => ?_)
    · have h6 := z_ne h6
      refine lv_aload_n hx hb dCE_prevailsOver_20 rfl (lv_at hl 0 rfl) ?_
      refine va_get (D := (dC, dI)) (ci := 7) (v := .int (nI f8)) (C := RCE) (T := TCE) (N := 10) hx hb hz in_CE hown hK hP 0 rfl rfl 8 (by decide) (hz _ wd_275) (fun _ h9 => h9) rfl dCE_prevailsOver_21 ?_
      refine lv_aload_n hx hb dCE_prevailsOver_24 rfl (lv_at hl 1 rfl) ?_
      refine va_get (D := (dC, dI)) (ci := 7) (v := .int (nI e8)) (C := RCE) (T := TCE) (N := 10) hx hb hz in_CE hown hK hP 1 rfl rfl 8 (by decide) (hz _ wd_275) (fun _ h9 => h9) rfl dCE_prevailsOver_25 ?_
      have t7 := nI_toInt (n := f8) (by omega)
      have t8 := nI_toInt (n := e8) (by omega)
      refine lv_icmp_eq (tgt := 48) hx hb dCE_prevailsOver_28 rfl (fun h9 => ?_) (fun h9 => ?_)
      · have h9 := z_eq h9
        refine lv_aload_n hx hb dCE_prevailsOver_48 rfl (lv_at hl 0 rfl) ?_
        refine va_get (D := (dC, dI)) (ci := 7) (v := .int (nI f9)) (C := RCE) (T := TCE) (N := 10) hx hb hz in_CE hown hK hP 0 rfl rfl 9 (by decide) (hz _ wd_276) (fun _ h9 => h9) rfl dCE_prevailsOver_49 ?_
        refine lv_aload_n hx hb dCE_prevailsOver_52 rfl (lv_at hl 1 rfl) ?_
        refine va_get (D := (dC, dI)) (ci := 7) (v := .int (nI e9)) (C := RCE) (T := TCE) (N := 10) hx hb hz in_CE hown hK hP 1 rfl rfl 9 (by decide) (hz _ wd_276) (fun _ h9 => h9) rfl dCE_prevailsOver_53 ?_
        have t10 := nI_toInt (n := f9) (by omega)
        have t11 := nI_toInt (n := e9) (by omega)
        refine lv_icmp_le (tgt := 63) hx hb dCE_prevailsOver_56 rfl (fun h12 => ?_) (fun h12 => ?_)
        · have h12 := z_le h12
          refine lv_iconst (v := nI 0) hx hb dCE_prevailsOver_63 (by decide) ?_
          subst hQ
          exact zp_zret hx hb hr hlocks (Or.inl rfl) (z_y0 (show ¬ (_ ∧ _) by omega)) dCE_prevailsOver_64
        · have h12 := z_nle h12
          refine lv_iconst (v := nI 1) hx hb dCE_prevailsOver_59 (by decide) ?_
          refine lv_goto (tgt := 64) hx hb dCE_prevailsOver_60 rfl ?_
          subst hQ
          exact zp_zret hx hb hr hlocks (Or.inr rfl) (z_y1 (show _ ∧ _ by omega)) dCE_prevailsOver_64
      · have h9 := z_ne h9
        refine lv_aload_n hx hb dCE_prevailsOver_31 rfl (lv_at hl 0 rfl) ?_
        refine va_get (D := (dC, dI)) (ci := 7) (v := .int (nI f8)) (C := RCE) (T := TCE) (N := 10) hx hb hz in_CE hown hK hP 0 rfl rfl 8 (by decide) (hz _ wd_275) (fun _ h9 => h9) rfl dCE_prevailsOver_32 ?_
        refine lv_aload_n hx hb dCE_prevailsOver_35 rfl (lv_at hl 1 rfl) ?_
        refine va_get (D := (dC, dI)) (ci := 7) (v := .int (nI e8)) (C := RCE) (T := TCE) (N := 10) hx hb hz in_CE hown hK hP 1 rfl rfl 8 (by decide) (hz _ wd_275) (fun _ h9 => h9) rfl dCE_prevailsOver_36 ?_
        have t13 := nI_toInt (n := f8) (by omega)
        have t14 := nI_toInt (n := e8) (by omega)
        refine lv_icmp_le (tgt := 46) hx hb dCE_prevailsOver_39 rfl (fun h15 => ?_) (fun h15 => ?_)
        · have h15 := z_le h15
          refine lv_iconst (v := nI 0) hx hb dCE_prevailsOver_46 (by decide) ?_
          subst hQ
          exact zp_zret hx hb hr hlocks (Or.inl rfl) (z_y0 (show ¬ (_ ∧ _) by omega)) dCE_prevailsOver_47
        · have h15 := z_nle h15
          refine lv_iconst (v := nI 1) hx hb dCE_prevailsOver_42 (by decide) ?_
          refine lv_goto (tgt := 47) hx hb dCE_prevailsOver_43 rfl ?_
          subst hQ
          exact zp_zret hx hb hr hlocks (Or.inr rfl) (z_y1 (show _ ∧ _ by omega)) dCE_prevailsOver_47
    · have h6 := z_eq h6
      refine lv_iconst (v := nI 1) hx hb dCE_prevailsOver_18 (by decide) ?_
      subst hQ
      exact zp_zret hx hb hr hlocks (Or.inr rfl) (z_y1 (show _ ∧ _ by omega)) dCE_prevailsOver_19
  · have h3 := z_eq h3
    refine lv_iconst (v := nI 0) hx hb dCE_prevailsOver_8 (by decide) ?_
    subst hQ
    exact zp_zret hx hb hr hlocks (Or.inl rfl) (z_y0 (show ¬ (_ ∧ _) by omega)) dCE_prevailsOver_9
end
section
set_option maxHeartbeats 4000000 in
set_option maxRecDepth 100000 in
theorem f_GR_drawnBetween (l : Launch) (dC : Nat → ClassId) (dI : Nat → Nat → Nat) (g : Nat) (gr : Nat) (gs : Nat) (bg : Nat) (re : Nat) (ce : Nat) (al : Nat) (ed : Nat) (cE : ClassId) (cap : Nat) (a : Nat → Option Nat) (mo : Int32) (n : Nat) (ad : Nat → Nat) (d : Nat → Nat → Nat) (c1 : Int32) (c2 : Int32) (hn : n ≤ cap) (hc : cap < 2147483648) (ha : ∀ k, k < n → a k = some (ad k)) (hd : ∀ j k, k < n → d j k ≤ 1000) (hg : gr ≤ 1000 ∧ gs ≤ 1000 ∧ bg ≤ 1000 ∧ re ≤ 1000 ∧ ce ≤ 1000) : zp_M l yGR_drawnBetween wGR_drawnBetween ({ frames := 4, cells := 0, slots := 0, locals := 85 }) [.ref g, .int c1, .int c2] (dC, dI) vwCl ([(g, .inr (1, [.ref al, .int (nI gr), .int (nI gs), .int (nI bg), .int (nI re), .int (nI ce)])), (al, .inr (2, [.ref ed, .int (nI n), .int mo])), (ed, .inl (cE, cap, .inr (.inr (.inr (.inr a)))))] ++ zcs n ad (zcf d)) [(cE, .object "java/lang/Object")] (fun _ => True) (fun r => zDr n (d 8) (d 9) c1 c2 r) := by
  refine zp_head (cc := cGR_drawnBetween) (maxL := 3) (ret := (some .int)) (by decide +kernel) rfl (Nat.le_of_ble_eq_true rfl) ?_
  intro p e s m below meth c ls F hP hK hX hl
  obtain ⟨hx, hb, hml, hr, hlocks, hown, hts⟩ := F
  have hown : s.vm.findClass "SpannedCells$Grid" = some m.cls := hown
  have hz : ∀ w9 ∈ zT, w9.before [.ref g, .int c1, .int c2].toArray s = true := fun w9 h => hts w9 (List.mem_cons_of_mem _ h)
  have hl : lv_has ls 3 [(0, .ref g), (1, .int c1), (2, .int c2)] := hl
  refine z_q (fun Q hQ => ?_)
  refine lv_iload_n hx hb dGR_drawnBetween_0 rfl (lv_at hl 1 rfl) ?_
  refine lv_iload_n hx hb dGR_drawnBetween_1 rfl (lv_at hl 2 rfl) ?_
  refine lv_icmp_ne (tgt := 7) hx hb dGR_drawnBetween_2 rfl (fun h_e => ?_) (fun h_e => ?_)
  · refine lv_aload_n hx hb dGR_drawnBetween_7 rfl (lv_at hl 0 rfl) ?_
    refine lv_iload_n hx hb dGR_drawnBetween_8 rfl (lv_at hl 1 rfl) ?_
    refine vp_callSi (W.runV (As := [.int c1]) (rest := []) ⟨hx, hb, hml, hown, hz⟩ (f_GR_hasCell l dC dI g gr gs bg re ce al ed cE cap a mo n ad d c1 (by omega) (by omega) (ha) (hd) (hg)) (cwV 1 hz (z_gV wd_572 wd_356 wd_357 wd_30 wd_358) rfl rfl rfl (by decide +kernel) ⟨Nat.le_of_ble_eq_true rfl, Nat.le_of_ble_eq_true rfl⟩) (zr_preV hK (zt_sub hP [0, 1, 2] rfl) (va_recv (q0 := 0) hK hP (q := (RGR, TGR, 6)) rfl rfl) [0] rfl z_true (fun _ _ _ => trivial)) rfl rfl hl.1 rfl (lv_room (Nat.le_of_ble_eq_true rfl)) dGR_drawnBetween_9 ⟨Nat.le_of_ble_eq_true rfl, Nat.le_of_ble_eq_true rfl⟩) (fun ra h_ra => ?_)
    have h_ra : z_yn ra (0 ≤ c1.toInt ∧ c1.toInt < n) := h_ra
    refine lv_if_ne (tgt := 17) hx hb dGR_drawnBetween_12 rfl (fun h_b => ?_) (fun h_b => ?_)
    · have h_b := z_yT h_ra h_b
      have h_a := h_b
      refine lv_aload_n hx hb dGR_drawnBetween_17 rfl (lv_at hl 0 rfl) ?_
      refine lv_iload_n hx hb dGR_drawnBetween_18 rfl (lv_at hl 2 rfl) ?_
      refine vp_callSi (W.runV (As := [.int c2]) (rest := []) ⟨hx, hb, hml, hown, hz⟩ (f_GR_hasCell l dC dI g gr gs bg re ce al ed cE cap a mo n ad d c2 (by omega) (by omega) (ha) (hd) (hg)) (cwV 1 hz (z_gV wd_572 wd_356 wd_357 wd_30 wd_358) rfl rfl rfl (by decide +kernel) ⟨Nat.le_of_ble_eq_true rfl, Nat.le_of_ble_eq_true rfl⟩) (zr_preV hK (zt_sub hP [0, 1, 2] rfl) (va_recv (q0 := 0) hK hP (q := (RGR, TGR, 6)) rfl rfl) [0] rfl z_true (fun _ _ _ => trivial)) rfl rfl hl.1 rfl (lv_room (Nat.le_of_ble_eq_true rfl)) dGR_drawnBetween_19 ⟨Nat.le_of_ble_eq_true rfl, Nat.le_of_ble_eq_true rfl⟩) (fun rb h_rb => ?_)
      have h_rb : z_yn rb (0 ≤ c2.toInt ∧ c2.toInt < n) := h_rb
      refine lv_if_ne (tgt := 27) hx hb dGR_drawnBetween_22 rfl (fun h_c => ?_) (fun h_c => ?_)
      · have h_c := z_yT h_rb h_c
        obtain ⟨k1, hk1, rfl⟩ := z_ofIn h_a.1 h_a.2 (by omega)
        obtain ⟨k2, hk2, rfl⟩ := z_ofIn h_c.1 h_c.2 (by omega)
        refine lv_aload_n hx hb dGR_drawnBetween_27 rfl (lv_at hl 0 rfl) ?_
        refine lv_iload_n hx hb dGR_drawnBetween_28 rfl (lv_at hl 2 rfl) ?_
        refine va_csr (W.runV (As := [.int (nI k2)]) (rest := []) ⟨hx, hb, hml, hown, hz⟩ (f_GR_cellAt l dC dI g gr gs bg re ce al ed cE cap a mo n ad d k2 (by omega) (by omega) (ha) (hd) (hg) (by omega)) (cwV 1 hz (z_gV wd_573 wd_360 wd_361 wd_30 wd_362) rfl rfl rfl (by decide +kernel) ⟨Nat.le_of_ble_eq_true rfl, Nat.le_of_ble_eq_true rfl⟩) (zr_preV hK (zt_sub hP [0, 1, 2] rfl) (va_recv (q0 := 0) hK hP (q := (RGR, TGR, 6)) rfl rfl) [0] rfl z_true (fun _ _ _ => trivial)) rfl rfl hl.1 rfl (lv_room (Nat.le_of_ble_eq_true rfl)) dGR_drawnBetween_29 ⟨Nat.le_of_ble_eq_true rfl, Nat.le_of_ble_eq_true rfl⟩) (fun r4 h_r4 => ?_)
        have h_r4 : r4 = ad k2 := h_r4
        subst h_r4
        refine lv_aload_n hx hb dGR_drawnBetween_32 rfl (lv_at hl 0 rfl) ?_
        refine lv_iload_n hx hb dGR_drawnBetween_33 rfl (lv_at hl 1 rfl) ?_
        refine va_csr (W.runV (As := [.int (nI k1)]) (rest := [.ref (ad k2)]) ⟨hx, hb, hml, hown, hz⟩ (f_GR_cellAt l dC dI g gr gs bg re ce al ed cE cap a mo n ad d k1 (by omega) (by omega) (ha) (hd) (hg) (by omega)) (cwV 1 hz (z_gV wd_573 wd_360 wd_361 wd_30 wd_362) rfl rfl rfl (by decide +kernel) ⟨Nat.le_of_ble_eq_true rfl, Nat.le_of_ble_eq_true rfl⟩) (zr_preV hK (zt_sub hP [0, 1, 2] rfl) (va_recv (q0 := 0) hK hP (q := (RGR, TGR, 6)) rfl rfl) [0] rfl z_true (fun _ _ _ => trivial)) rfl rfl hl.1 rfl (lv_room (Nat.le_of_ble_eq_true rfl)) dGR_drawnBetween_34 ⟨Nat.le_of_ble_eq_true rfl, Nat.le_of_ble_eq_true rfl⟩) (fun r5 h_r5 => ?_)
        have h_r5 : r5 = ad k1 := h_r5
        subst h_r5
        refine vp_callSi (W.runV (As := [.ref (ad k1)]) (rest := []) ⟨hx, hb, hml, hown, hz⟩ (f_CE_prevailsOver l dC dI (ad k2) (d 0 k2) (d 1 k2) (d 2 k2) (d 3 k2) (d 4 k2) (d 5 k2) (d 6 k2) (d 7 k2) (d 8 k2) (d 9 k2) (ad k1) (d 0 k1) (d 1 k1) (d 2 k1) (d 3 k1) (d 4 k1) (d 5 k1) (d 6 k1) (d 7 k1) (d 8 k1) (d 9 k1) (by have := hd 8 k2 hk2; have := hd 9 k2 hk2; have := hd 8 k1 hk1; have := hd 9 k1 hk1; omega)) (cwV 1 hz (z_gV wd_574 wd_575 wd_576 wd_41 wd_577) rfl rfl rfl (by decide +kernel) ⟨Nat.le_of_ble_eq_true rfl, Nat.le_of_ble_eq_true rfl⟩) (zr_preV hK (zt_two hP (zcs_get rfl (by omega)) (zcs_get rfl (by omega))) (va_recv hK hP (q := (RCE, TCE, 10)) rfl (zcs_get rfl (by omega))) [] rfl z_true (fun _ _ _ => trivial)) rfl rfl hl.1 rfl (lv_room (Nat.le_of_ble_eq_true rfl)) dGR_drawnBetween_37 ⟨Nat.le_of_ble_eq_true rfl, Nat.le_of_ble_eq_true rfl⟩) (fun rp h_rp => ?_)
        have h_rp : z_yn rp (zPv (d 8 k2) (d 9 k2) (d 8 k1) (d 9 k1)) := h_rp
        refine lv_if_eq (tgt := 47) hx hb dGR_drawnBetween_40 rfl (fun h_b => ?_) (fun h_b => ?_)
        · have h_b := z_yF h_rp h_b
          refine lv_iload_n hx hb dGR_drawnBetween_47 rfl (lv_at hl 1 rfl) ?_
          subst hQ
          exact zp_iret hx hb hr hlocks (Or.inr (Or.inr (Or.inr ⟨h_e, k1, k2, hk1, hk2, rfl, rfl, Or.inr ⟨h_b, rfl⟩⟩))) dGR_drawnBetween_48
        · have h_b := z_yT h_rp h_b
          refine lv_iload_n hx hb dGR_drawnBetween_43 rfl (lv_at hl 2 rfl) ?_
          refine lv_goto (tgt := 48) hx hb dGR_drawnBetween_44 rfl ?_
          subst hQ
          exact zp_iret hx hb hr hlocks (Or.inr (Or.inr (Or.inr ⟨h_e, k1, k2, hk1, hk2, rfl, rfl, Or.inl ⟨h_b, rfl⟩⟩))) dGR_drawnBetween_48
      · have h_c := z_yF h_rb h_c
        refine lv_iload_n hx hb dGR_drawnBetween_25 rfl (lv_at hl 1 rfl) ?_
        subst hQ
        exact zp_iret hx hb hr hlocks (Or.inr (Or.inr (Or.inl ⟨h_e, h_a, h_c, rfl⟩))) dGR_drawnBetween_26
    · have h_b := z_yF h_ra h_b
      refine lv_iload_n hx hb dGR_drawnBetween_15 rfl (lv_at hl 2 rfl) ?_
      subst hQ
      exact zp_iret hx hb hr hlocks (Or.inr (Or.inl ⟨h_e, h_b, rfl⟩)) dGR_drawnBetween_16
  · refine lv_iconst (v := (-1)) hx hb dGR_drawnBetween_5 (by decide) ?_
    subst hQ
    exact zp_iret hx hb hr hlocks (Or.inl ⟨h_e, rfl⟩) dGR_drawnBetween_6

set_option maxHeartbeats 4000000 in
set_option maxRecDepth 100000 in
theorem f_SC_columns (l : Launch) (dC : Nat → ClassId) (dI : Nat → Nat → Nat) (h0 : Nat) (wd : Nat) (hh : Nat) (sp : Nat) (gp : Nat) (fx : Nat) (g : Nat) (gr : Nat) (gs : Nat) (bg : Nat) (re : Nat) (ce : Nat) (al : Nat) (ed : Nat) (cE : ClassId) (cap : Nat) (a : Nat → Option Nat) (mo : Int32) (n : Nat) (ad : Nat → Nat) (d : Nat → Nat → Nat) (hn : n ≤ cap) (hc : cap < 2147483648) (ha : ∀ k, k < n → a k = some (ad k)) (hd : ∀ j k, k < n → d j k ≤ 1000) (hg : gr ≤ 1000 ∧ gs ≤ 1000 ∧ bg ≤ 1000 ∧ re ≤ 1000 ∧ ce ≤ 1000) : zp_M l ySC_columns wSC_columns ({ frames := 1, cells := 0, slots := 0, locals := 20 }) [.ref h0] (dC, dI) vwCl ([(h0, .inr (0, [.ref g, .ref wd, .ref hh, .int (nI sp), .int (nI gp), .int (nI fx)])), (g, .inr (1, [.ref al, .int (nI gr), .int (nI gs), .int (nI bg), .int (nI re), .int (nI ce)])), (al, .inr (2, [.ref ed, .int (nI n), .int mo])), (ed, .inl (cE, cap, .inr (.inr (.inr (.inr a)))))] ++ zcs n ad (zcf d)) [(cE, .object "java/lang/Object")] (fun _ => True) (fun r => r = nI ce) := by
  refine zp_head (cc := cSC_columns) (maxL := 1) (ret := (some .int)) (by decide +kernel) rfl (Nat.le_of_ble_eq_true rfl) ?_
  intro p e s m below meth c ls F hP hK hX hl
  obtain ⟨hx, hb, hml, hr, hlocks, hown, hts⟩ := F
  have hown : s.vm.findClass "SpannedCells" = some m.cls := hown
  have hz : ∀ w9 ∈ zT, w9.before [.ref h0].toArray s = true := fun w9 h => hts w9 (List.mem_cons_of_mem _ h)
  have hl : lv_has ls 1 [(0, .ref h0)] := hl
  refine z_q (fun Q hQ => ?_)
  refine lv_aload_n hx hb dSC_columns_0 rfl (lv_at hl 0 rfl) ?_
  refine va_get (D := (dC, dI)) (ci := 0) (v := .ref g) (C := RSC) (T := TSC) (N := 6) hx hb hz in_SC hown hK hP 0 rfl rfl 0 (by decide) (hz _ wd_150) (fun _ h9 => h9) rfl dSC_columns_1 ?_
  refine vp_callSi (W.runV (As := []) (rest := []) ⟨hx, hb, hml, hown, hz⟩ (f_GR_columnCount l dC dI g gr gs bg re ce al ed cE cap a mo n ad d (by omega) (by omega) (ha) (hd) (hg)) (cwV 0 hz (z_gV wd_391 wd_392 wd_393 wd_30 wd_394) rfl rfl rfl (by decide +kernel) ⟨Nat.le_of_ble_eq_true rfl, Nat.le_of_ble_eq_true rfl⟩) (zr_preV hK (zt_sub hP [1, 2, 3] rfl) (va_recv (q0 := 1) hK hP (q := (RGR, TGR, 6)) rfl rfl) [0] rfl z_true (fun _ _ _ => trivial)) rfl rfl hl.1 rfl (lv_room (Nat.le_of_ble_eq_true rfl)) dSC_columns_4 ⟨Nat.le_of_ble_eq_true rfl, Nat.le_of_ble_eq_true rfl⟩) (fun r1 h_r1 => ?_)
  have h_r1 : r1 = nI ce := h_r1
  subst h_r1
  subst hQ
  exact zp_iret hx hb hr hlocks (rfl) dSC_columns_7

set_option maxHeartbeats 4000000 in
set_option maxRecDepth 100000 in
theorem f_SC_rows (l : Launch) (dC : Nat → ClassId) (dI : Nat → Nat → Nat) (h0 : Nat) (wd : Nat) (hh : Nat) (sp : Nat) (gp : Nat) (fx : Nat) (g : Nat) (gr : Nat) (gs : Nat) (bg : Nat) (re : Nat) (ce : Nat) (al : Nat) (ed : Nat) (cE : ClassId) (cap : Nat) (a : Nat → Option Nat) (mo : Int32) (n : Nat) (ad : Nat → Nat) (d : Nat → Nat → Nat) (hn : n ≤ cap) (hc : cap < 2147483648) (ha : ∀ k, k < n → a k = some (ad k)) (hd : ∀ j k, k < n → d j k ≤ 1000) (hg : gr ≤ 1000 ∧ gs ≤ 1000 ∧ bg ≤ 1000 ∧ re ≤ 1000 ∧ ce ≤ 1000) : zp_M l ySC_rows wSC_rows ({ frames := 1, cells := 0, slots := 0, locals := 20 }) [.ref h0] (dC, dI) vwCl ([(h0, .inr (0, [.ref g, .ref wd, .ref hh, .int (nI sp), .int (nI gp), .int (nI fx)])), (g, .inr (1, [.ref al, .int (nI gr), .int (nI gs), .int (nI bg), .int (nI re), .int (nI ce)])), (al, .inr (2, [.ref ed, .int (nI n), .int mo])), (ed, .inl (cE, cap, .inr (.inr (.inr (.inr a)))))] ++ zcs n ad (zcf d)) [(cE, .object "java/lang/Object")] (fun _ => True) (fun r => r = nI re) := by
  refine zp_head (cc := cSC_rows) (maxL := 1) (ret := (some .int)) (by decide +kernel) rfl (Nat.le_of_ble_eq_true rfl) ?_
  intro p e s m below meth c ls F hP hK hX hl
  obtain ⟨hx, hb, hml, hr, hlocks, hown, hts⟩ := F
  have hown : s.vm.findClass "SpannedCells" = some m.cls := hown
  have hz : ∀ w9 ∈ zT, w9.before [.ref h0].toArray s = true := fun w9 h => hts w9 (List.mem_cons_of_mem _ h)
  have hl : lv_has ls 1 [(0, .ref h0)] := hl
  refine z_q (fun Q hQ => ?_)
  refine lv_aload_n hx hb dSC_rows_0 rfl (lv_at hl 0 rfl) ?_
  refine va_get (D := (dC, dI)) (ci := 0) (v := .ref g) (C := RSC) (T := TSC) (N := 6) hx hb hz in_SC hown hK hP 0 rfl rfl 0 (by decide) (hz _ wd_150) (fun _ h9 => h9) rfl dSC_rows_1 ?_
  refine vp_callSi (W.runV (As := []) (rest := []) ⟨hx, hb, hml, hown, hz⟩ (f_GR_rowCount l dC dI g gr gs bg re ce al ed cE cap a mo n ad d (by omega) (by omega) (ha) (hd) (hg)) (cwV 0 hz (z_gV wd_399 wd_400 wd_401 wd_30 wd_402) rfl rfl rfl (by decide +kernel) ⟨Nat.le_of_ble_eq_true rfl, Nat.le_of_ble_eq_true rfl⟩) (zr_preV hK (zt_sub hP [1, 2, 3] rfl) (va_recv (q0 := 1) hK hP (q := (RGR, TGR, 6)) rfl rfl) [0] rfl z_true (fun _ _ _ => trivial)) rfl rfl hl.1 rfl (lv_room (Nat.le_of_ble_eq_true rfl)) dSC_rows_4 ⟨Nat.le_of_ble_eq_true rfl, Nat.le_of_ble_eq_true rfl⟩) (fun r1 h_r1 => ?_)
  have h_r1 : r1 = nI re := h_r1
  subst h_r1
  subst hQ
  exact zp_iret hx hb hr hlocks (rfl) dSC_rows_7

set_option maxHeartbeats 4000000 in
set_option maxRecDepth 100000 in
theorem f_SC_slot (l : Launch) (dC : Nat → ClassId) (dI : Nat → Nat → Nat) (h0 : Nat) (wd : Nat) (hh : Nat) (sp : Nat) (gp : Nat) (fx : Nat) (g : Nat) (gr : Nat) (gs : Nat) (bg : Nat) (re : Nat) (ce : Nat) (al : Nat) (ed : Nat) (cE : ClassId) (cap : Nat) (a : Nat → Option Nat) (mo : Int32) (n : Nat) (ad : Nat → Nat) (d : Nat → Nat → Nat) (x : Int32) (y : Int32) (hn : n ≤ cap) (hc : cap < 2147483648) (ha : ∀ k, k < n → a k = some (ad k)) (hd : ∀ j k, k < n → d j k ≤ 1000) (hg : gr ≤ 1000 ∧ gs ≤ 1000 ∧ bg ≤ 1000 ∧ re ≤ 1000 ∧ ce ≤ 1000) : zp_M l ySC_slot wSC_slot ({ frames := 4, cells := 0, slots := 0, locals := 87 }) [.ref h0, .int x, .int y] (dC, dI) vwCl ([(h0, .inr (0, [.ref g, .ref wd, .ref hh, .int (nI sp), .int (nI gp), .int (nI fx)])), (g, .inr (1, [.ref al, .int (nI gr), .int (nI gs), .int (nI bg), .int (nI re), .int (nI ce)])), (al, .inr (2, [.ref ed, .int (nI n), .int mo])), (ed, .inl (cE, cap, .inr (.inr (.inr (.inr a)))))] ++ zcs n ad (zcf d)) [(cE, .object "java/lang/Object")] (fun _ => True) (fun r => zFst n (fun k => zTd d k x y) r) := by
  refine zp_head (cc := cSC_slot) (maxL := 3) (ret := (some .int)) (by decide +kernel) rfl (Nat.le_of_ble_eq_true rfl) ?_
  intro p e s m below meth c ls F hP hK hX hl
  obtain ⟨hx, hb, hml, hr, hlocks, hown, hts⟩ := F
  have hown : s.vm.findClass "SpannedCells" = some m.cls := hown
  have hz : ∀ w9 ∈ zT, w9.before [.ref h0, .int x, .int y].toArray s = true := fun w9 h => hts w9 (List.mem_cons_of_mem _ h)
  have hl : lv_has ls 3 [(0, .ref h0), (1, .int x), (2, .int y)] := hl
  refine z_q (fun Q hQ => ?_)
  refine lv_aload_n hx hb dSC_slot_0 rfl (lv_at hl 0 rfl) ?_
  refine va_get (D := (dC, dI)) (ci := 0) (v := .ref g) (C := RSC) (T := TSC) (N := 6) hx hb hz in_SC hown hK hP 0 rfl rfl 0 (by decide) (hz _ wd_150) (fun _ h9 => h9) rfl dSC_slot_1 ?_
  refine lv_iload_n hx hb dSC_slot_4 rfl (lv_at hl 1 rfl) ?_
  refine lv_iload_n hx hb dSC_slot_5 rfl (lv_at hl 2 rfl) ?_
  refine vp_callSi (W.runV (As := [.int x, .int y]) (rest := []) ⟨hx, hb, hml, hown, hz⟩ (f_GR_ownerOf l dC dI g gr gs bg re ce al ed cE cap a mo n ad d x y (by omega) (by omega) (ha) (hd) (hg)) (cwV 2 hz (z_gV wd_407 wd_231 wd_232 wd_30 wd_233) rfl rfl rfl (by decide +kernel) ⟨Nat.le_of_ble_eq_true rfl, Nat.le_of_ble_eq_true rfl⟩) (zr_preV hK (zt_sub hP [1, 2, 3] rfl) (va_recv (q0 := 1) hK hP (q := (RGR, TGR, 6)) rfl rfl) [0] rfl z_true (fun _ _ _ => trivial)) rfl rfl hl.1 rfl (lv_room (Nat.le_of_ble_eq_true rfl)) dSC_slot_6 ⟨Nat.le_of_ble_eq_true rfl, Nat.le_of_ble_eq_true rfl⟩) (fun ro h_ro => ?_)
  have h_ro : zFst n (fun k => zTd d k x y) ro := h_ro
  subst hQ
  exact zp_iret hx hb hr hlocks (h_ro) dSC_slot_9

set_option maxHeartbeats 4000000 in
set_option maxRecDepth 100000 in
theorem f_SC_overlaps (l : Launch) (dC : Nat → ClassId) (dI : Nat → Nat → Nat) (h0 : Nat) (wd : Nat) (hh : Nat) (sp : Nat) (gp : Nat) (fx : Nat) (g : Nat) (gr : Nat) (gs : Nat) (bg : Nat) (re : Nat) (ce : Nat) (al : Nat) (ed : Nat) (cE : ClassId) (cap : Nat) (a : Nat → Option Nat) (mo : Int32) (n : Nat) (ad : Nat → Nat) (d : Nat → Nat → Nat) (hn : n ≤ cap) (hc : cap < 2147483648) (ha : ∀ k, k < n → a k = some (ad k)) (hd : ∀ j k, k < n → d j k ≤ 1000) (hg : gr ≤ 1000 ∧ gs ≤ 1000 ∧ bg ≤ 1000 ∧ re ≤ 1000 ∧ ce ≤ 1000) : zp_M l ySC_overlaps wSC_overlaps ({ frames := 6, cells := 0, slots := 0, locals := 132 }) [.ref h0] (dC, dI) vwCl ([(h0, .inr (0, [.ref g, .ref wd, .ref hh, .int (nI sp), .int (nI gp), .int (nI fx)])), (g, .inr (1, [.ref al, .int (nI gr), .int (nI gs), .int (nI bg), .int (nI re), .int (nI ce)])), (al, .inr (2, [.ref ed, .int (nI n), .int mo])), (ed, .inl (cE, cap, .inr (.inr (.inr (.inr a)))))] ++ zcs n ad (zcf d)) [(cE, .object "java/lang/Object")] (fun _ => True) (fun r => r = nI (zSum (fun k => d 2 k * d 7 k) n) - nI (zSum (fun y => zCn (fun x => zOwd n d x y) ce) re)) := by
  refine zp_head (cc := cSC_overlaps) (maxL := 1) (ret := (some .int)) (by decide +kernel) rfl (Nat.le_of_ble_eq_true rfl) ?_
  intro p e s m below meth c ls F hP hK hX hl
  obtain ⟨hx, hb, hml, hr, hlocks, hown, hts⟩ := F
  have hown : s.vm.findClass "SpannedCells" = some m.cls := hown
  have hz : ∀ w9 ∈ zT, w9.before [.ref h0].toArray s = true := fun w9 h => hts w9 (List.mem_cons_of_mem _ h)
  have hl : lv_has ls 1 [(0, .ref h0)] := hl
  refine z_q (fun Q hQ => ?_)
  refine lv_aload_n hx hb dSC_overlaps_0 rfl (lv_at hl 0 rfl) ?_
  refine va_get (D := (dC, dI)) (ci := 0) (v := .ref g) (C := RSC) (T := TSC) (N := 6) hx hb hz in_SC hown hK hP 0 rfl rfl 0 (by decide) (hz _ wd_150) (fun _ h9 => h9) rfl dSC_overlaps_1 ?_
  refine vp_callSi (W.runV (As := []) (rest := []) ⟨hx, hb, hml, hown, hz⟩ (f_GR_countOverlaps l dC dI g gr gs bg re ce al ed cE cap a mo n ad d (by omega) (by omega) (ha) (hd) (hg)) (cwV 0 hz (z_gV wd_412 wd_413 wd_414 wd_30 wd_415) rfl rfl rfl (by decide +kernel) ⟨Nat.le_of_ble_eq_true rfl, Nat.le_of_ble_eq_true rfl⟩) (zr_preV hK (zt_sub hP [1, 2, 3] rfl) (va_recv (q0 := 1) hK hP (q := (RGR, TGR, 6)) rfl rfl) [0] rfl z_true (fun _ _ _ => trivial)) rfl rfl hl.1 rfl (lv_room (Nat.le_of_ble_eq_true rfl)) dSC_overlaps_4 ⟨Nat.le_of_ble_eq_true rfl, Nat.le_of_ble_eq_true rfl⟩) (fun r1 h_r1 => ?_)
  have h_r1 : r1 = nI (zSum (fun k => d 2 k * d 7 k) n) - nI (zSum (fun y => zCn (fun x => zOwd n d x y) ce) re) := h_r1
  subst h_r1
  subst hQ
  exact zp_iret hx hb hr hlocks (rfl) dSC_overlaps_7

set_option maxHeartbeats 4000000 in
set_option maxRecDepth 100000 in
theorem f_SC_empties (l : Launch) (dC : Nat → ClassId) (dI : Nat → Nat → Nat) (h0 : Nat) (wd : Nat) (hh : Nat) (sp : Nat) (gp : Nat) (fx : Nat) (g : Nat) (gr : Nat) (gs : Nat) (bg : Nat) (re : Nat) (ce : Nat) (al : Nat) (ed : Nat) (cE : ClassId) (cap : Nat) (a : Nat → Option Nat) (mo : Int32) (n : Nat) (ad : Nat → Nat) (d : Nat → Nat → Nat) (hn : n ≤ cap) (hc : cap < 2147483648) (ha : ∀ k, k < n → a k = some (ad k)) (hd : ∀ j k, k < n → d j k ≤ 1000) (hg : gr ≤ 1000 ∧ gs ≤ 1000 ∧ bg ≤ 1000 ∧ re ≤ 1000 ∧ ce ≤ 1000) : zp_M l ySC_empties wSC_empties ({ frames := 5, cells := 0, slots := 0, locals := 108 }) [.ref h0] (dC, dI) vwCl ([(h0, .inr (0, [.ref g, .ref wd, .ref hh, .int (nI sp), .int (nI gp), .int (nI fx)])), (g, .inr (1, [.ref al, .int (nI gr), .int (nI gs), .int (nI bg), .int (nI re), .int (nI ce)])), (al, .inr (2, [.ref ed, .int (nI n), .int mo])), (ed, .inl (cE, cap, .inr (.inr (.inr (.inr a)))))] ++ zcs n ad (zcf d)) [(cE, .object "java/lang/Object")] (fun _ => True) (fun r => r = nI (zCn (zEc n (d 0)) ce + 100 * zCn (zEc n (d 1)) re)) := by
  refine zp_head (cc := cSC_empties) (maxL := 1) (ret := (some .int)) (by decide +kernel) rfl (Nat.le_of_ble_eq_true rfl) ?_
  intro p e s m below meth c ls F hP hK hX hl
  obtain ⟨hx, hb, hml, hr, hlocks, hown, hts⟩ := F
  have hown : s.vm.findClass "SpannedCells" = some m.cls := hown
  have hz : ∀ w9 ∈ zT, w9.before [.ref h0].toArray s = true := fun w9 h => hts w9 (List.mem_cons_of_mem _ h)
  have hl : lv_has ls 1 [(0, .ref h0)] := hl
  refine z_q (fun Q hQ => ?_)
  refine lv_aload_n hx hb dSC_empties_0 rfl (lv_at hl 0 rfl) ?_
  refine va_get (D := (dC, dI)) (ci := 0) (v := .ref g) (C := RSC) (T := TSC) (N := 6) hx hb hz in_SC hown hK hP 0 rfl rfl 0 (by decide) (hz _ wd_150) (fun _ h9 => h9) rfl dSC_empties_1 ?_
  refine vp_callSi (W.runV (As := []) (rest := []) ⟨hx, hb, hml, hown, hz⟩ (f_GR_countEmptyColumns l dC dI g gr gs bg re ce al ed cE cap a mo n ad d (by omega) (by omega) (ha) (hd) (hg)) (cwV 0 hz (z_gV wd_424 wd_425 wd_426 wd_30 wd_427) rfl rfl rfl (by decide +kernel) ⟨Nat.le_of_ble_eq_true rfl, Nat.le_of_ble_eq_true rfl⟩) (zr_preV hK (zt_sub hP [1, 2, 3] rfl) (va_recv (q0 := 1) hK hP (q := (RGR, TGR, 6)) rfl rfl) [0] rfl z_true (fun _ _ _ => trivial)) rfl rfl hl.1 rfl (lv_room (Nat.le_of_ble_eq_true rfl)) dSC_empties_4 ⟨Nat.le_of_ble_eq_true rfl, Nat.le_of_ble_eq_true rfl⟩) (fun r1 h_r1 => ?_)
  have h_r1 : r1 = nI (zCn (zEc n (d 0)) ce) := h_r1
  subst h_r1
  refine lv_bipush (v := nI 100) hx hb dSC_empties_7 (by decide) ?_
  refine lv_aload_n hx hb dSC_empties_9 rfl (lv_at hl 0 rfl) ?_
  refine va_get (D := (dC, dI)) (ci := 0) (v := .ref g) (C := RSC) (T := TSC) (N := 6) hx hb hz in_SC hown hK hP 0 rfl rfl 0 (by decide) (hz _ wd_150) (fun _ h9 => h9) rfl dSC_empties_10 ?_
  refine vp_callSi (W.runV (As := []) (rest := [.int (nI 100), .int (nI (zCn (zEc n (d 0)) ce))]) ⟨hx, hb, hml, hown, hz⟩ (f_GR_countEmptyRows l dC dI g gr gs bg re ce al ed cE cap a mo n ad d (by omega) (by omega) (ha) (hd) (hg)) (cwV 0 hz (z_gV wd_432 wd_433 wd_434 wd_30 wd_435) rfl rfl rfl (by decide +kernel) ⟨Nat.le_of_ble_eq_true rfl, Nat.le_of_ble_eq_true rfl⟩) (zr_preV hK (zt_sub hP [1, 2, 3] rfl) (va_recv (q0 := 1) hK hP (q := (RGR, TGR, 6)) rfl rfl) [0] rfl z_true (fun _ _ _ => trivial)) rfl rfl hl.1 rfl (lv_room (Nat.le_of_ble_eq_true rfl)) dSC_empties_13 ⟨Nat.le_of_ble_eq_true rfl, Nat.le_of_ble_eq_true rfl⟩) (fun r2 h_r2 => ?_)
  have h_r2 : r2 = nI (zCn (zEc n (d 1)) re) := h_r2
  subst h_r2
  refine lv_imul hx hb dSC_empties_16 ?_
  refine lv_topi (fun x3 e4 => ?_)
  have e4 : x3 = nI (100 * (zCn (zEc n (d 1)) re)) := e4.trans (pk_mul _ _)
  subst e4
  refine lv_iadd hx hb dSC_empties_17 ?_
  refine lv_topi (fun x5 e6 => ?_)
  have e6 : x5 = nI ((zCn (zEc n (d 0)) ce) + (100 * (zCn (zEc n (d 1)) re))) := e6.trans (nI_add _ _)
  subst e6
  subst hQ
  exact zp_iret hx hb hr hlocks (rfl) dSC_empties_18

set_option maxHeartbeats 4000000 in
set_option maxRecDepth 100000 in
theorem f_SC_span (l : Launch) (dC : Nat → ClassId) (dI : Nat → Nat → Nat) (h0 : Nat) (wd : Nat) (hh : Nat) (sp : Nat) (gp : Nat) (fx : Nat) (g : Nat) (gr : Nat) (gs : Nat) (bg : Nat) (re : Nat) (ce : Nat) (al : Nat) (ed : Nat) (cE : ClassId) (cap : Nat) (a : Nat → Option Nat) (mo : Int32) (n : Nat) (ad : Nat → Nat) (d : Nat → Nat → Nat) (k : Int32) (hn : n ≤ cap) (hc : cap < 2147483648) (ha : ∀ k, k < n → a k = some (ad k)) (hd : ∀ j k, k < n → d j k ≤ 1000) (hg : gr ≤ 1000 ∧ gs ≤ 1000 ∧ bg ≤ 1000 ∧ re ≤ 1000 ∧ ce ≤ 1000) : zp_M l ySC_span wSC_span ({ frames := 4, cells := 0, slots := 0, locals := 85 }) [.ref h0, .int k] (dC, dI) vwCl ([(h0, .inr (0, [.ref g, .ref wd, .ref hh, .int (nI sp), .int (nI gp), .int (nI fx)])), (g, .inr (1, [.ref al, .int (nI gr), .int (nI gs), .int (nI bg), .int (nI re), .int (nI ce)])), (al, .inr (2, [.ref ed, .int (nI n), .int mo])), (ed, .inl (cE, cap, .inr (.inr (.inr (.inr a)))))] ++ zcs n ad (zcf d)) [(cE, .object "java/lang/Object")] (fun _ => True) (fun r => (¬ (0 ≤ k.toInt ∧ k.toInt < n) ∧ r = -1) ∨ ∃ k0, k0 < n ∧ k = nI k0 ∧ r = nI (((d 0 k0 + 100 * d 1 k0) + 10000 * d 2 k0) + 1000000 * d 7 k0)) := by
  refine zp_head (cc := cSC_span) (maxL := 3) (ret := (some .int)) (by decide +kernel) rfl (Nat.le_of_ble_eq_true rfl) ?_
  intro p e s m below meth c ls F hP hK hX hl
  obtain ⟨hx, hb, hml, hr, hlocks, hown, hts⟩ := F
  have hown : s.vm.findClass "SpannedCells" = some m.cls := hown
  have hz : ∀ w9 ∈ zT, w9.before [.ref h0, .int k].toArray s = true := fun w9 h => hts w9 (List.mem_cons_of_mem _ h)
  have hl : lv_has ls 3 [(0, .ref h0), (1, .int k)] := hl
  refine z_q (fun Q hQ => ?_)
  refine lv_aload_n hx hb dSC_span_0 rfl (lv_at hl 0 rfl) ?_
  refine va_get (D := (dC, dI)) (ci := 0) (v := .ref g) (C := RSC) (T := TSC) (N := 6) hx hb hz in_SC hown hK hP 0 rfl rfl 0 (by decide) (hz _ wd_150) (fun _ h9 => h9) rfl dSC_span_1 ?_
  refine lv_iload_n hx hb dSC_span_4 rfl (lv_at hl 1 rfl) ?_
  refine vp_callSi (W.runV (As := [.int k]) (rest := []) ⟨hx, hb, hml, hown, hz⟩ (f_GR_hasCell l dC dI g gr gs bg re ce al ed cE cap a mo n ad d k (by omega) (by omega) (ha) (hd) (hg)) (cwV 1 hz (z_gV wd_355 wd_356 wd_357 wd_30 wd_358) rfl rfl rfl (by decide +kernel) ⟨Nat.le_of_ble_eq_true rfl, Nat.le_of_ble_eq_true rfl⟩) (zr_preV hK (zt_sub hP [1, 2, 3] rfl) (va_recv (q0 := 1) hK hP (q := (RGR, TGR, 6)) rfl rfl) [0] rfl z_true (fun _ _ _ => trivial)) rfl rfl hl.1 rfl (lv_room (Nat.le_of_ble_eq_true rfl)) dSC_span_5 ⟨Nat.le_of_ble_eq_true rfl, Nat.le_of_ble_eq_true rfl⟩) (fun ra h_ra => ?_)
  have h_ra : z_yn ra (0 ≤ k.toInt ∧ k.toInt < n) := h_ra
  refine lv_if_ne (tgt := 13) hx hb dSC_span_8 rfl (fun h_b => ?_) (fun h_b => ?_)
  · have h_b := z_yT h_ra h_b
    obtain ⟨k0, hk0, rfl⟩ := z_ofIn h_b.1 h_b.2 (by omega)
    refine lv_aload_n hx hb dSC_span_13 rfl (lv_at hl 0 rfl) ?_
    refine va_get (D := (dC, dI)) (ci := 0) (v := .ref g) (C := RSC) (T := TSC) (N := 6) hx hb hz in_SC hown hK hP 0 rfl rfl 0 (by decide) (hz _ wd_150) (fun _ h9 => h9) rfl dSC_span_14 ?_
    refine lv_iload_n hx hb dSC_span_17 rfl (lv_at hl 1 rfl) ?_
    refine va_csr (W.runV (As := [.int (nI k0)]) (rest := []) ⟨hx, hb, hml, hown, hz⟩ (f_GR_cellAt l dC dI g gr gs bg re ce al ed cE cap a mo n ad d k0 (by omega) (by omega) (ha) (hd) (hg) (by omega)) (cwV 1 hz (z_gV wd_359 wd_360 wd_361 wd_30 wd_362) rfl rfl rfl (by decide +kernel) ⟨Nat.le_of_ble_eq_true rfl, Nat.le_of_ble_eq_true rfl⟩) (zr_preV hK (zt_sub hP [1, 2, 3] rfl) (va_recv (q0 := 1) hK hP (q := (RGR, TGR, 6)) rfl rfl) [0] rfl z_true (fun _ _ _ => trivial)) rfl rfl hl.1 rfl (lv_room (Nat.le_of_ble_eq_true rfl)) dSC_span_18 ⟨Nat.le_of_ble_eq_true rfl, Nat.le_of_ble_eq_true rfl⟩) (fun r2 h_r2 => ?_)
    have h_r2 : r2 = ad k0 := h_r2
    subst h_r2
    refine lv_astore_n hx hb dSC_span_21 rfl hl (Nat.le_of_ble_eq_true rfl) rfl (fun ls hl => ?_)
    have hl : lv_has ls 3 [(2, .ref (ad k0)), (0, .ref h0), (1, .int (nI k0))] := hl
    refine lv_aload_n hx hb dSC_span_22 rfl (lv_at hl 0 rfl) ?_
    refine va_get (D := (dC, dI)) (ci := 7) (v := .int (nI (d 0 k0))) (C := RCE) (T := TCE) (N := 10) hx hb hz in_CE hown hK hP (4 + k0) (zcs_get rfl (by omega)) rfl 0 (by decide) (hz _ wd_253) (fun _ h9 => h9) rfl dSC_span_23 ?_
    refine lv_bipush (v := nI 100) hx hb dSC_span_26 (by decide) ?_
    refine lv_aload_n hx hb dSC_span_28 rfl (lv_at hl 0 rfl) ?_
    refine va_get (D := (dC, dI)) (ci := 7) (v := .int (nI (d 1 k0))) (C := RCE) (T := TCE) (N := 10) hx hb hz in_CE hown hK hP (4 + k0) (zcs_get rfl (by omega)) rfl 1 (by decide) (hz _ wd_259) (fun _ h9 => h9) rfl dSC_span_29 ?_
    refine lv_imul hx hb dSC_span_32 ?_
    refine lv_topi (fun x3 e4 => ?_)
    have e4 : x3 = nI (100 * (d 1 k0)) := e4.trans (pk_mul _ _)
    subst e4
    refine lv_iadd hx hb dSC_span_33 ?_
    refine lv_topi (fun x5 e6 => ?_)
    have e6 : x5 = nI ((d 0 k0) + (100 * (d 1 k0))) := e6.trans (nI_add _ _)
    subst e6
    refine lv_sipush (v := nI 10000) hx hb dSC_span_34 (by decide) ?_
    refine lv_aload_n hx hb dSC_span_37 rfl (lv_at hl 0 rfl) ?_
    refine va_get (D := (dC, dI)) (ci := 7) (v := .int (nI (d 2 k0))) (C := RCE) (T := TCE) (N := 10) hx hb hz in_CE hown hK hP (4 + k0) (zcs_get rfl (by omega)) rfl 2 (by decide) (hz _ wd_262) (fun _ h9 => h9) rfl dSC_span_38 ?_
    refine lv_imul hx hb dSC_span_41 ?_
    refine lv_topi (fun x7 e8 => ?_)
    have e8 : x7 = nI (10000 * (d 2 k0)) := e8.trans (pk_mul _ _)
    subst e8
    refine lv_iadd hx hb dSC_span_42 ?_
    refine lv_topi (fun x9 e10 => ?_)
    have e10 : x9 = nI (((d 0 k0) + (100 * (d 1 k0))) + (10000 * (d 2 k0))) := e10.trans (nI_add _ _)
    subst e10
    refine lv_ldc (v := 1000000) hx hb hown (hz _ wd_444) dSC_span_43 ?_
    refine lv_topi (fun x11 e12 => ?_)
    have e12 : x11 = nI 1000000 := e12.trans (by decide)
    subst e12
    refine lv_aload_n hx hb dSC_span_45 rfl (lv_at hl 0 rfl) ?_
    refine va_get (D := (dC, dI)) (ci := 7) (v := .int (nI (d 7 k0))) (C := RCE) (T := TCE) (N := 10) hx hb hz in_CE hown hK hP (4 + k0) (zcs_get rfl (by omega)) rfl 7 (by decide) (hz _ wd_273) (fun _ h9 => h9) rfl dSC_span_46 ?_
    refine lv_imul hx hb dSC_span_49 ?_
    refine lv_topi (fun x13 e14 => ?_)
    have e14 : x13 = nI (1000000 * (d 7 k0)) := e14.trans (pk_mul _ _)
    subst e14
    refine lv_iadd hx hb dSC_span_50 ?_
    refine lv_topi (fun x15 e16 => ?_)
    have e16 : x15 = nI ((((d 0 k0) + (100 * (d 1 k0))) + (10000 * (d 2 k0))) + (1000000 * (d 7 k0))) := e16.trans (nI_add _ _)
    subst e16
    subst hQ
    exact zp_iret hx hb hr hlocks (Or.inr ⟨k0, hk0, rfl, rfl⟩) dSC_span_51
  · have h_b := z_yF h_ra h_b
    refine lv_iconst (v := (-1)) hx hb dSC_span_11 (by decide) ?_
    subst hQ
    exact zp_iret hx hb hr hlocks (Or.inl ⟨h_b, rfl⟩) dSC_span_12

set_option maxHeartbeats 4000000 in
set_option maxRecDepth 100000 in
theorem f_SC_edge (l : Launch) (dC : Nat → ClassId) (dI : Nat → Nat → Nat) (h0 : Nat) (wd : Nat) (hh : Nat) (sp : Nat) (gp : Nat) (fx : Nat) (g : Nat) (gr : Nat) (gs : Nat) (bg : Nat) (re : Nat) (ce : Nat) (al : Nat) (ed : Nat) (cE : ClassId) (cap : Nat) (a : Nat → Option Nat) (mo : Int32) (n : Nat) (ad : Nat → Nat) (d : Nat → Nat → Nat) (x : Int32) (y : Int32) (f : Int32) (hn : n ≤ cap) (hc : cap < 2147483648) (ha : ∀ k, k < n → a k = some (ad k)) (hd : ∀ j k, k < n → d j k ≤ 1000) (hg : gr ≤ 1000 ∧ gs ≤ 1000 ∧ bg ≤ 1000 ∧ re ≤ 1000 ∧ ce ≤ 1000) : zp_M l ySC_edge wSC_edge ({ frames := 5, cells := 0, slots := 0, locals := 107 }) [.ref h0, .int x, .int y, .int f] (dC, dI) vwCl ([(h0, .inr (0, [.ref g, .ref wd, .ref hh, .int (nI sp), .int (nI gp), .int (nI fx)])), (g, .inr (1, [.ref al, .int (nI gr), .int (nI gs), .int (nI bg), .int (nI re), .int (nI ce)])), (al, .inr (2, [.ref ed, .int (nI n), .int mo])), (ed, .inl (cE, cap, .inr (.inr (.inr (.inr a)))))] ++ zcs n ad (zcf d)) [(cE, .object "java/lang/Object")] zN (fun r => (¬ ((0 ≤ x.toInt ∧ x.toInt < ce) ∧ (0 ≤ y.toInt ∧ y.toInt < re)) ∧ r = -1) ∨ (((0 ≤ x.toInt ∧ x.toInt < ce) ∧ (0 ≤ y.toInt ∧ y.toInt < re)) ∧ ∃ c1 c2, zFst n (fun k => zTd d k x y) c1 ∧ zFst n (fun k => zTd d k (if f = 0 then x + nI 1 else x) (if f = 0 then y else y + nI 1)) c2 ∧ zDr n (d 8) (d 9) c1 c2 r)) := by
  refine zp_head (cc := cSC_edge) (maxL := 5) (ret := (some .int)) (by decide +kernel) rfl (Nat.le_of_ble_eq_true rfl) ?_
  intro p e s m below meth c ls F hP hK hX hl
  obtain ⟨hx, hb, hml, hr, hlocks, hown, hts⟩ := F
  have hown : s.vm.findClass "SpannedCells" = some m.cls := hown
  have hz : ∀ w9 ∈ zT, w9.before [.ref h0, .int x, .int y, .int f].toArray s = true := fun w9 h => hts w9 (List.mem_cons_of_mem _ h)
  have hl : lv_has ls 5 [(0, .ref h0), (1, .int x), (2, .int y), (3, .int f)] := hl
  have hN := hX
  refine z_q (fun Q hQ => ?_)
  refine lv_aload_n hx hb dSC_edge_0 rfl (lv_at hl 0 rfl) ?_
  refine va_get (D := (dC, dI)) (ci := 0) (v := .ref g) (C := RSC) (T := TSC) (N := 6) hx hb hz in_SC hown hK hP 0 rfl rfl 0 (by decide) (hz _ wd_150) (fun _ h9 => h9) rfl dSC_edge_1 ?_
  refine lv_iload_n hx hb dSC_edge_4 rfl (lv_at hl 1 rfl) ?_
  refine lv_iload_n hx hb dSC_edge_5 rfl (lv_at hl 2 rfl) ?_
  refine vp_callSi (W.runV (As := [.int x, .int y]) (rest := []) ⟨hx, hb, hml, hown, hz⟩ (f_GR_hasSlot l dC dI g gr gs bg re ce al ed cE cap a mo n ad d x y (by omega) (by omega) (ha) (hd) (hg)) (cwV 2 hz (z_gV wd_563 wd_564 wd_565 wd_30 wd_566) rfl rfl rfl (by decide +kernel) ⟨Nat.le_of_ble_eq_true rfl, Nat.le_of_ble_eq_true rfl⟩) (zr_preV hK (zt_sub hP [1, 2, 3] rfl) (va_recv (q0 := 1) hK hP (q := (RGR, TGR, 6)) rfl rfl) [0] rfl zN_blind (zN_call hN)) rfl rfl hl.1 rfl (lv_room (Nat.le_of_ble_eq_true rfl)) dSC_edge_6 ⟨Nat.le_of_ble_eq_true rfl, Nat.le_of_ble_eq_true rfl⟩) (fun ra h_ra => ?_)
  have h_ra : z_yn ra ((0 ≤ x.toInt ∧ x.toInt < ce) ∧ (0 ≤ y.toInt ∧ y.toInt < re)) := h_ra
  refine lv_if_ne (tgt := 14) hx hb dSC_edge_9 rfl (fun h_b => ?_) (fun h_b => ?_)
  · have h_b := z_yT h_ra h_b
    have h_a := h_b
    refine z_join (fun v : Int32 => zFst n (fun k => zTd d k (if f = 0 then x + nI 1 else x) (if f = 0 then y else y + nI 1)) v) (fun v => W p l e ({ frames := 5, cells := 0, slots := 0, locals := 107 }) s m [.ref h0, .int x, .int y, .int f].toArray below meth c s.heap [] 0 0 Q (F0 m 43 ls (.int v :: []))) (fun v hv => ?_) (fun J43 => ?_)
    · refine lv_istore hx hb dSC_edge_43 hl (Nat.le_of_ble_eq_true rfl) rfl (fun ls hl => ?_)
      have hl : lv_has ls 5 [(4, .int v), (0, .ref h0), (1, .int x), (2, .int y), (3, .int f)] := hl
      refine lv_aload_n hx hb dSC_edge_45 rfl (lv_at hl 1 rfl) ?_
      refine va_get (D := (dC, dI)) (ci := 0) (v := .ref g) (C := RSC) (T := TSC) (N := 6) hx hb hz in_SC hown hK hP 0 rfl rfl 0 (by decide) (hz _ wd_150) (fun _ h9 => h9) rfl dSC_edge_46 ?_
      refine lv_aload_n hx hb dSC_edge_49 rfl (lv_at hl 1 rfl) ?_
      refine va_get (D := (dC, dI)) (ci := 0) (v := .ref g) (C := RSC) (T := TSC) (N := 6) hx hb hz in_SC hown hK hP 0 rfl rfl 0 (by decide) (hz _ wd_150) (fun _ h9 => h9) rfl dSC_edge_50 ?_
      refine lv_iload_n hx hb dSC_edge_53 rfl (lv_at hl 2 rfl) ?_
      refine lv_iload_n hx hb dSC_edge_54 rfl (lv_at hl 3 rfl) ?_
      refine vp_callSi (W.runV (As := [.int x, .int y]) (rest := [.ref g]) ⟨hx, hb, hml, hown, hz⟩ (f_GR_ownerOf l dC dI g gr gs bg re ce al ed cE cap a mo n ad d x y (by omega) (by omega) (ha) (hd) (hg)) (cwV 2 hz (z_gV wd_407 wd_231 wd_232 wd_30 wd_233) rfl rfl rfl (by decide +kernel) ⟨Nat.le_of_ble_eq_true rfl, Nat.le_of_ble_eq_true rfl⟩) (zr_preV hK (zt_sub hP [1, 2, 3] rfl) (va_recv (q0 := 1) hK hP (q := (RGR, TGR, 6)) rfl rfl) [0] rfl z_true (fun _ _ _ => trivial)) rfl rfl hl.1 rfl (lv_room (Nat.le_of_ble_eq_true rfl)) dSC_edge_55 ⟨Nat.le_of_ble_eq_true rfl, Nat.le_of_ble_eq_true rfl⟩) (fun rc h_rc => ?_)
      have h_rc : zFst n (fun k => zTd d k x y) rc := h_rc
      refine lv_iload hx hb dSC_edge_58 (lv_at hl 0 rfl) ?_
      refine vp_callSi (W.runV (As := [.int rc, .int v]) (rest := []) ⟨hx, hb, hml, hown, hz⟩ (f_GR_drawnBetween l dC dI g gr gs bg re ce al ed cE cap a mo n ad d rc v (by omega) (by omega) (ha) (hd) (hg)) (cwV 2 hz (z_gV wd_568 wd_569 wd_570 wd_30 wd_571) rfl rfl rfl (by decide +kernel) ⟨Nat.le_of_ble_eq_true rfl, Nat.le_of_ble_eq_true rfl⟩) (zr_preV hK (zt_sub hP [1, 2, 3] rfl) (va_recv (q0 := 1) hK hP (q := (RGR, TGR, 6)) rfl rfl) [0] rfl z_true (fun _ _ _ => trivial)) rfl rfl hl.1 rfl (lv_room (Nat.le_of_ble_eq_true rfl)) dSC_edge_60 ⟨Nat.le_of_ble_eq_true rfl, Nat.le_of_ble_eq_true rfl⟩) (fun rd h_rd => ?_)
      have h_rd : zDr n (d 8) (d 9) rc v rd := h_rd
      subst hQ
      exact zp_iret hx hb hr hlocks (Or.inr ⟨h_a, rc, v, h_rc, hv, h_rd⟩) dSC_edge_63
    · refine lv_iload_n hx hb dSC_edge_14 rfl (lv_at hl 3 rfl) ?_
      refine lv_if_eq (tgt := 32) hx hb dSC_edge_15 rfl (fun h_f => ?_) (fun h_f => ?_)
      · refine lv_aload_n hx hb dSC_edge_32 rfl (lv_at hl 0 rfl) ?_
        refine va_get (D := (dC, dI)) (ci := 0) (v := .ref g) (C := RSC) (T := TSC) (N := 6) hx hb hz in_SC hown hK hP 0 rfl rfl 0 (by decide) (hz _ wd_150) (fun _ h9 => h9) rfl dSC_edge_33 ?_
        refine lv_iload_n hx hb dSC_edge_36 rfl (lv_at hl 1 rfl) ?_
        refine lv_iconst (v := nI 1) hx hb dSC_edge_37 (by decide) ?_
        refine lv_iadd hx hb dSC_edge_38 ?_
        refine lv_iload_n hx hb dSC_edge_39 rfl (lv_at hl 2 rfl) ?_
        refine vp_callSi (W.runV (As := [.int (x + (nI 1)), .int y]) (rest := []) ⟨hx, hb, hml, hown, hz⟩ (f_GR_ownerOf l dC dI g gr gs bg re ce al ed cE cap a mo n ad d (x + (nI 1)) y (by omega) (by omega) (ha) (hd) (hg)) (cwV 2 hz (z_gV wd_407 wd_231 wd_232 wd_30 wd_233) rfl rfl rfl (by decide +kernel) ⟨Nat.le_of_ble_eq_true rfl, Nat.le_of_ble_eq_true rfl⟩) (zr_preV hK (zt_sub hP [1, 2, 3] rfl) (va_recv (q0 := 1) hK hP (q := (RGR, TGR, 6)) rfl rfl) [0] rfl z_true (fun _ _ _ => trivial)) rfl rfl hl.1 rfl (lv_room (Nat.le_of_ble_eq_true rfl)) dSC_edge_40 ⟨Nat.le_of_ble_eq_true rfl, Nat.le_of_ble_eq_true rfl⟩) (fun r2 h_r2 => ?_)
        have h_r2 : zFst n (fun k => zTd d k (x + (nI 1)) y) r2 := h_r2
        exact J43 _ (by rw [if_pos h_f, if_pos h_f]; exact h_r2)
      · refine lv_aload_n hx hb dSC_edge_18 rfl (lv_at hl 0 rfl) ?_
        refine va_get (D := (dC, dI)) (ci := 0) (v := .ref g) (C := RSC) (T := TSC) (N := 6) hx hb hz in_SC hown hK hP 0 rfl rfl 0 (by decide) (hz _ wd_150) (fun _ h9 => h9) rfl dSC_edge_19 ?_
        refine lv_iload_n hx hb dSC_edge_22 rfl (lv_at hl 1 rfl) ?_
        refine lv_iload_n hx hb dSC_edge_23 rfl (lv_at hl 2 rfl) ?_
        refine lv_iconst (v := nI 1) hx hb dSC_edge_24 (by decide) ?_
        refine lv_iadd hx hb dSC_edge_25 ?_
        refine vp_callSi (W.runV (As := [.int x, .int (y + (nI 1))]) (rest := []) ⟨hx, hb, hml, hown, hz⟩ (f_GR_ownerOf l dC dI g gr gs bg re ce al ed cE cap a mo n ad d x (y + (nI 1)) (by omega) (by omega) (ha) (hd) (hg)) (cwV 2 hz (z_gV wd_407 wd_231 wd_232 wd_30 wd_233) rfl rfl rfl (by decide +kernel) ⟨Nat.le_of_ble_eq_true rfl, Nat.le_of_ble_eq_true rfl⟩) (zr_preV hK (zt_sub hP [1, 2, 3] rfl) (va_recv (q0 := 1) hK hP (q := (RGR, TGR, 6)) rfl rfl) [0] rfl z_true (fun _ _ _ => trivial)) rfl rfl hl.1 rfl (lv_room (Nat.le_of_ble_eq_true rfl)) dSC_edge_26 ⟨Nat.le_of_ble_eq_true rfl, Nat.le_of_ble_eq_true rfl⟩) (fun r3 h_r3 => ?_)
        have h_r3 : zFst n (fun k => zTd d k x (y + (nI 1))) r3 := h_r3
        refine lv_goto (tgt := 43) hx hb dSC_edge_29 rfl ?_
        exact J43 _ (by rw [if_neg h_f, if_neg h_f]; exact h_r3)
  · have h_b := z_yF h_ra h_b
    refine lv_iconst (v := (-1)) hx hb dSC_edge_12 (by decide) ?_
    subst hQ
    exact zp_iret hx hb hr hlocks (Or.inl ⟨h_b, rfl⟩) dSC_edge_13
end
section
set_option maxHeartbeats 4000000 in
set_option maxRecDepth 100000 in
theorem f_MD_endOf (l : Launch) (dC : Nat → ClassId) (dI : Nat → Nat → Nat) (h0 : Nat) (b0 : Nat) (b1 : Nat) (b2 : Nat) (b3 : Nat) (b4 : Nat) (b5 : Nat) (b6 : Nat) (b7 : Nat) (b8 : Nat) (b9 : Nat) (b10 : Nat) (b11 : Nat) (b12 : Nat) (b13 : Nat) (b14 : Nat) (b15 : Nat) (b16 : Nat) (b17 : Nat) (kb0 : ClassId) (kb1 : ClassId) (kb2 : ClassId) (kb3 : ClassId) (kb4 : ClassId) (kb5 : ClassId) (kb6 : ClassId) (kb7 : ClassId) (kb8 : ClassId) (kb9 : ClassId) (kb10 : ClassId) (kb11 : ClassId) (mg : Nat) (n : Nat) (rg : Nat) (rn : Nat) (ro : Nat) (sp : Nat) (gp : Nat) (fx : Nat) (mm : Nat → Nat → Nat) (g : Nat) (hm : ∀ a k, mm a k ≤ 1000) (hn : n ≤ 40) (hg : 1 ≤ mg ∧ mg ≤ 8 ∧ rg ≤ 8 ∧ rn ≤ 1000 ∧ ro ≤ 1000) (hG : ∀ k, k < n → mm 6 k < 8) (hE : ∀ k, k < n → mm 3 k ≤ zEn mm (mm 6 k) n) (hg8 : g < 8) : zp_M l yMD_endOf wMD_endOf ({ frames := 0, cells := 0, slots := 0, locals := 0 }) [.ref h0, .int (nI g)] (dC, dI) vwCl [(h0, .inr (6, [.int (nI mg), .ref b0, .ref b1, .int (nI n), .ref b2, .ref b3, .ref b4, .ref b5, .ref b6, .ref b7, .ref b8, .ref b9, .ref b10, .ref b11, .int (nI rg - nI 1), .int (nI rn), .int (nI ro), .int (nI sp), .int (nI gp), .int (nI fx), .ref b12, .ref b13, .ref b14, .ref b15, .ref b16, .ref b17])), (b0, .inl (kb0, 8, .inl (fun j => nI (mm 0 j)))), (b1, .inl (kb1, 8, .inl (fun j => nI (mm 1 j)))), (b2, .inl (kb2, 40, .inl (fun j => nI (mm 2 j)))), (b3, .inl (kb3, 40, .inl (fun j => nI (mm 3 j)))), (b4, .inl (kb4, 40, .inl (fun j => nI (mm 4 j)))), (b5, .inl (kb5, 40, .inl (fun j => nI (mm 5 j)))), (b6, .inl (kb6, 40, .inl (fun j => nI (mm 6 j)))), (b7, .inl (kb7, 40, .inl (fun j => nI (mm 7 j)))), (b8, .inl (kb8, 40, .inl (fun j => nI (mm 8 j)))), (b9, .inl (kb9, 40, .inl (fun j => nI (mm 9 j)))), (b10, .inl (kb10, 40, .inl (fun j => nI (mm 10 j)))), (b11, .inl (kb11, 40, .inl (fun j => nI (mm 11 j))))] [(kb0, .int), (kb1, .int), (kb2, .int), (kb3, .int), (kb4, .int), (kb5, .int), (kb6, .int), (kb7, .int), (kb8, .int), (kb9, .int), (kb10, .int), (kb11, .int)] (fun _ => True) (fun r => r = nI (zEn mm g n)) := by
  refine zp_head (cc := cMD_endOf) (maxL := 5) (ret := (some .int)) (by decide +kernel) rfl (Nat.le_of_ble_eq_true rfl) ?_
  intro p e s m below meth c ls F hP hK hX hl
  obtain ⟨hx, hb, hml, hr, hlocks, hown, hts⟩ := F
  have hown : s.vm.findClass "SpannedCellsModel" = some m.cls := hown
  have hz : ∀ w9 ∈ zT, w9.before [.ref h0, .int (nI g)].toArray s = true := fun w9 h => hts w9 (List.mem_cons_of_mem _ h)
  have hl : lv_has ls 5 [(0, .ref h0), (1, .int (nI g))] := hl
  refine z_q (fun Q hQ => ?_)
  refine lv_aload_n hx hb dMD_endOf_0 rfl (lv_at hl 0 rfl) ?_
  refine va_get (D := (dC, dI)) (ci := 6) (v := .ref b0) (C := RMD) (T := TMD) (N := 26) hx hb hz in_MD hown hK hP 0 rfl rfl 1 (by decide) (hz _ wd_585) (fun _ h9 => h9) rfl dMD_endOf_1 ?_
  refine lv_iload_n hx hb dMD_endOf_4 rfl (lv_at hl 1 rfl) ?_
  refine va_iald hx hb hK hP 1 0 rfl rfl (vp_in_nI (by omega) (by omega)) dMD_endOf_5 ?_
  refine lv_topi (fun x1 e2 => ?_)
  have e2 : x1 = nI (mm 0 g) := e2.trans (by show nI (mm 0 (nI g).toNatClampNeg) = _; rw [nI_clamp (by omega)])
  subst e2
  refine lv_aload_n hx hb dMD_endOf_6 rfl (lv_at hl 0 rfl) ?_
  refine va_get (D := (dC, dI)) (ci := 6) (v := .ref b1) (C := RMD) (T := TMD) (N := 26) hx hb hz in_MD hown hK hP 0 rfl rfl 2 (by decide) (hz _ wd_586) (fun _ h9 => h9) rfl dMD_endOf_7 ?_
  refine lv_iload_n hx hb dMD_endOf_10 rfl (lv_at hl 1 rfl) ?_
  refine va_iald hx hb hK hP 2 1 rfl rfl (vp_in_nI (by omega) (by omega)) dMD_endOf_11 ?_
  refine lv_topi (fun x3 e4 => ?_)
  have e4 : x3 = nI (mm 1 g) := e4.trans (by show nI (mm 1 (nI g).toNatClampNeg) = _; rw [nI_clamp (by omega)])
  subst e4
  refine lv_iadd hx hb dMD_endOf_12 ?_
  refine lv_topi (fun x5 e6 => ?_)
  have e6 : x5 = nI ((mm 0 g) + (mm 1 g)) := e6.trans (nI_add _ _)
  subst e6
  refine lv_istore_n hx hb dMD_endOf_13 rfl hl (Nat.le_of_ble_eq_true rfl) rfl (fun ls hl => ?_)
  have hl : lv_has ls 5 [(2, .int (nI ((mm 0 g) + (mm 1 g)))), (0, .ref h0), (1, .int (nI g))] := hl
  refine lv_iconst (v := nI 0) hx hb dMD_endOf_14 (by decide) ?_
  refine lv_istore_n hx hb dMD_endOf_15 rfl hl (Nat.le_of_ble_eq_true rfl) rfl (fun ls hl => ?_)
  have hl : lv_has ls 5 [(3, .int (nI 0)), (2, .int (nI ((mm 0 g) + (mm 1 g)))), (0, .ref h0), (1, .int (nI g))] := hl
  refine zl_up (σ := Unit) n (fun i x9 ls => lv_has ls 5 [(3, .int (nI i)), (2, .int (nI (zEn mm g i))), (1, .int (nI g)), (0, .ref h0)]) ?_ ?_ 0 (Nat.zero_le _) () ls (lv_sub hl [0, 1, 3, 2] rfl)
  · intro x9 ls hI
    have hl := hI
    have hl : lv_has ls 5 [(3, .int (nI n)), (2, .int (nI (zEn mm g n))), (1, .int (nI g)), (0, .ref h0)] := hl
    refine lv_iload_n hx hb dMD_endOf_16 rfl (lv_at hl 0 rfl) ?_
    refine lv_aload_n hx hb dMD_endOf_17 rfl (lv_at hl 3 rfl) ?_
    refine va_get (D := (dC, dI)) (ci := 6) (v := .int (nI n)) (C := RMD) (T := TMD) (N := 26) hx hb hz in_MD hown hK hP 0 rfl rfl 3 (by decide) (hz _ wd_587) (fun _ h9 => h9) rfl dMD_endOf_18 ?_
    have t7 := nI_toInt (n := n) (by omega)
    have t8 := nI_toInt (n := n) (by omega)
    refine lv_icmp_ge (tgt := 81) hx hb dMD_endOf_21 rfl (fun _ => ?_) (fun h => by have h := z_nle h; omega)
    refine lv_iload_n hx hb dMD_endOf_81 rfl (lv_at hl 1 rfl) ?_
    subst hQ
    exact zp_iret hx hb hr hlocks (rfl) dMD_endOf_82
  · intro i hi ih
    intro x9 ls hI
    have hl := hI
    have hl : lv_has ls 5 [(3, .int (nI i)), (2, .int (nI (zEn mm g i))), (1, .int (nI g)), (0, .ref h0)] := hl
    refine lv_iload_n hx hb dMD_endOf_16 rfl (lv_at hl 0 rfl) ?_
    refine lv_aload_n hx hb dMD_endOf_17 rfl (lv_at hl 3 rfl) ?_
    refine va_get (D := (dC, dI)) (ci := 6) (v := .int (nI n)) (C := RMD) (T := TMD) (N := 26) hx hb hz in_MD hown hK hP 0 rfl rfl 3 (by decide) (hz _ wd_587) (fun _ h9 => h9) rfl dMD_endOf_18 ?_
    have t9 := nI_toInt (n := i) (by omega)
    have t10 := nI_toInt (n := n) (by omega)
    refine lv_icmp_ge (tgt := 81) hx hb dMD_endOf_21 rfl (fun h => by have h := z_le h; omega) (fun _ => ?_)
    refine lv_aload_n hx hb dMD_endOf_24 rfl (lv_at hl 3 rfl) ?_
    refine va_get (D := (dC, dI)) (ci := 6) (v := .ref b3) (C := RMD) (T := TMD) (N := 26) hx hb hz in_MD hown hK hP 0 rfl rfl 5 (by decide) (hz _ wd_589) (fun _ h9 => h9) rfl dMD_endOf_25 ?_
    refine lv_iload_n hx hb dMD_endOf_28 rfl (lv_at hl 0 rfl) ?_
    refine va_iald hx hb hK hP 4 3 rfl rfl (vp_in_nI (by omega) (by omega)) dMD_endOf_29 ?_
    refine lv_topi (fun x11 e12 => ?_)
    have e12 : x11 = nI (mm 3 i) := e12.trans (by show nI (mm 3 (nI i).toNatClampNeg) = _; rw [nI_clamp (by omega)])
    subst e12
    refine lv_aload_n hx hb dMD_endOf_30 rfl (lv_at hl 3 rfl) ?_
    refine va_get (D := (dC, dI)) (ci := 6) (v := .ref b5) (C := RMD) (T := TMD) (N := 26) hx hb hz in_MD hown hK hP 0 rfl rfl 7 (by decide) (hz _ wd_591) (fun _ h9 => h9) rfl dMD_endOf_31 ?_
    refine lv_iload_n hx hb dMD_endOf_34 rfl (lv_at hl 0 rfl) ?_
    refine va_iald hx hb hK hP 6 5 rfl rfl (vp_in_nI (by omega) (by omega)) dMD_endOf_35 ?_
    refine lv_topi (fun x13 e14 => ?_)
    have e14 : x13 = nI (mm 5 i) := e14.trans (by show nI (mm 5 (nI i).toNatClampNeg) = _; rw [nI_clamp (by omega)])
    subst e14
    refine z_join (fun v1 : Int32 => v1 = nI (zW mm i)) (fun v1 => W p l e ({ frames := 0, cells := 0, slots := 0, locals := 0 }) s m [.ref h0, .int (nI g)].toArray below meth c s.heap [] 0 0 Q (F0 m 49 ls (.int v1 :: [.int (nI (mm 3 i))]))) (fun v1 hv1 => ?_) (fun J49 => ?_)
    · subst hv1
      refine lv_iadd hx hb dMD_endOf_49 ?_
      refine lv_topi (fun x15 e16 => ?_)
      have e16 : x15 = nI ((mm 3 i) + (zW mm i)) := e16.trans (nI_add _ _)
      subst e16
      refine lv_istore hx hb dMD_endOf_50 hl (Nat.le_of_ble_eq_true rfl) rfl (fun ls hl => ?_)
      have hl : lv_has ls 5 [(4, .int (nI ((mm 3 i) + (zW mm i)))), (3, .int (nI i)), (2, .int (nI (zEn mm g i))), (1, .int (nI g)), (0, .ref h0)] := hl
      refine z_join (fun v2 : Int32 => v2 = nI (zEn mm g (i + 1))) (fun v2 => W p l e ({ frames := 0, cells := 0, slots := 0, locals := 0 }) s m [.ref h0, .int (nI g)].toArray below meth c s.heap [] 0 0 Q (F0 m 74 ls (.int v2 :: []))) (fun v2 hv2 => ?_) (fun J74 => ?_)
      · subst hv2
        refine lv_istore_n hx hb dMD_endOf_74 rfl hl (Nat.le_of_ble_eq_true rfl) rfl (fun ls hl => ?_)
        have hl : lv_has ls 5 [(2, .int (nI (zEn mm g (i + 1)))), (4, .int (nI ((mm 3 i) + (zW mm i)))), (3, .int (nI i)), (1, .int (nI g)), (0, .ref h0)] := hl
        refine lv_iinc (k := 2) (v := nI (i + 1)) hx hb dMD_endOf_75 hl rfl (by rw [show Int32.ofInt 1 = nI 1 from by decide]; exact nI_add _ _) (Nat.le_of_ble_eq_true rfl) rfl (fun ls hl => ?_)
        have hl : lv_has ls 5 [(3, .int (nI (i + 1))), (2, .int (nI (zEn mm g (i + 1)))), (4, .int (nI ((mm 3 i) + (zW mm i)))), (1, .int (nI g)), (0, .ref h0)] := hl
        refine lv_goto (tgt := 16) hx hb dMD_endOf_78 rfl ?_
        exact ih () ls (lv_sub hl [0, 1, 3, 4] rfl)
      · refine lv_aload_n hx hb dMD_endOf_52 rfl (lv_at hl 4 rfl) ?_
        refine va_get (D := (dC, dI)) (ci := 6) (v := .ref b6) (C := RMD) (T := TMD) (N := 26) hx hb hz in_MD hown hK hP 0 rfl rfl 8 (by decide) (hz _ wd_592) (fun _ h9 => h9) rfl dMD_endOf_53 ?_
        refine lv_iload_n hx hb dMD_endOf_56 rfl (lv_at hl 1 rfl) ?_
        refine va_iald hx hb hK hP 7 6 rfl rfl (vp_in_nI (by omega) (by omega)) dMD_endOf_57 ?_
        refine lv_topi (fun x17 e18 => ?_)
        have e18 : x17 = nI (mm 6 i) := e18.trans (by show nI (mm 6 (nI i).toNatClampNeg) = _; rw [nI_clamp (by omega)])
        subst e18
        refine lv_iload_n hx hb dMD_endOf_58 rfl (lv_at hl 3 rfl) ?_
        have t19 := hm 6 i
        have t20 := nI_toInt (n := mm 6 i) (by omega)
        have t21 := nI_toInt (n := g) (by omega)
        refine lv_icmp_ne (tgt := 73) hx hb dMD_endOf_59 rfl (fun h22 => ?_) (fun h22 => ?_)
        · have h22 := z_ne h22
          refine lv_iload_n hx hb dMD_endOf_73 rfl (lv_at hl 2 rfl) ?_
          exact J74 _ (by rw [zEn_0 (by omega)])
        · have h22 := z_eq h22
          refine lv_iload hx hb dMD_endOf_62 (lv_at hl 0 rfl) ?_
          refine lv_iload_n hx hb dMD_endOf_64 rfl (lv_at hl 2 rfl) ?_
          have t23 := hm 3 i
          have t24 := zW_le hm i
          have t25 := nI_toInt (n := (mm 3 i) + (zW mm i)) (by omega)
          have t26 := zEn_le hm g i
          have t27 := nI_toInt (n := zEn mm g i) (by omega)
          refine lv_icmp_le (tgt := 73) hx hb dMD_endOf_65 rfl (fun h28 => ?_) (fun h28 => ?_)
          · have h28 := z_le h28
            refine lv_iload_n hx hb dMD_endOf_73 rfl (lv_at hl 2 rfl) ?_
            exact J74 _ (by rw [zEn_0 (by omega)])
          · have h28 := z_nle h28
            refine lv_iload hx hb dMD_endOf_68 (lv_at hl 0 rfl) ?_
            refine lv_goto (tgt := 74) hx hb dMD_endOf_70 rfl ?_
            exact J74 _ (by rw [zEn_1 (by omega) (by omega)])
    · have t29 := hm 5 i
      have t30 := nI_toInt (n := mm 5 i) (by omega)
      have t31 : (0 : Int32).toInt = 0 := by decide
      refine lv_if_le (tgt := 48) hx hb dMD_endOf_36 rfl (fun h32 => ?_) (fun h32 => ?_)
      · have h32 := z_le h32
        refine lv_iconst (v := nI 1) hx hb dMD_endOf_48 (by decide) ?_
        exact J49 _ (by rw [zW_F (by omega)])
      · have h32 := z_nle h32
        refine lv_aload_n hx hb dMD_endOf_39 rfl (lv_at hl 3 rfl) ?_
        refine va_get (D := (dC, dI)) (ci := 6) (v := .ref b5) (C := RMD) (T := TMD) (N := 26) hx hb hz in_MD hown hK hP 0 rfl rfl 7 (by decide) (hz _ wd_591) (fun _ h9 => h9) rfl dMD_endOf_40 ?_
        refine lv_iload_n hx hb dMD_endOf_43 rfl (lv_at hl 0 rfl) ?_
        refine va_iald hx hb hK hP 6 5 rfl rfl (vp_in_nI (by omega) (by omega)) dMD_endOf_44 ?_
        refine lv_topi (fun x33 e34 => ?_)
        have e34 : x33 = nI (mm 5 i) := e34.trans (by show nI (mm 5 (nI i).toNatClampNeg) = _; rw [nI_clamp (by omega)])
        subst e34
        refine lv_goto (tgt := 49) hx hb dMD_endOf_45 rfl ?_
        exact J49 _ (by rw [zW_T (by omega)])

set_option maxHeartbeats 4000000 in
set_option maxRecDepth 100000 in
theorem f_MD_rows (l : Launch) (dC : Nat → ClassId) (dI : Nat → Nat → Nat) (h0 : Nat) (b0 : Nat) (b1 : Nat) (b2 : Nat) (b3 : Nat) (b4 : Nat) (b5 : Nat) (b6 : Nat) (b7 : Nat) (b8 : Nat) (b9 : Nat) (b10 : Nat) (b11 : Nat) (b12 : Nat) (b13 : Nat) (b14 : Nat) (b15 : Nat) (b16 : Nat) (b17 : Nat) (kb0 : ClassId) (kb1 : ClassId) (kb2 : ClassId) (kb3 : ClassId) (kb4 : ClassId) (kb5 : ClassId) (kb6 : ClassId) (kb7 : ClassId) (kb8 : ClassId) (kb9 : ClassId) (kb10 : ClassId) (kb11 : ClassId) (mg : Nat) (n : Nat) (rg : Nat) (rn : Nat) (ro : Nat) (sp : Nat) (gp : Nat) (fx : Nat) (mm : Nat → Nat → Nat) (hm : ∀ a k, mm a k ≤ 1000) (hn : n ≤ 40) (hg : 1 ≤ mg ∧ mg ≤ 8 ∧ rg ≤ 8 ∧ rn ≤ 1000 ∧ ro ≤ 1000) (hG : ∀ k, k < n → mm 6 k < 8) (hE : ∀ k, k < n → mm 3 k ≤ zEn mm (mm 6 k) n) : zp_M l yMD_rows wMD_rows ({ frames := 1, cells := 0, slots := 0, locals := 24 }) [.ref h0] (dC, dI) vwCl [(h0, .inr (6, [.int (nI mg), .ref b0, .ref b1, .int (nI n), .ref b2, .ref b3, .ref b4, .ref b5, .ref b6, .ref b7, .ref b8, .ref b9, .ref b10, .ref b11, .int (nI rg - nI 1), .int (nI rn), .int (nI ro), .int (nI sp), .int (nI gp), .int (nI fx), .ref b12, .ref b13, .ref b14, .ref b15, .ref b16, .ref b17])), (b0, .inl (kb0, 8, .inl (fun j => nI (mm 0 j)))), (b1, .inl (kb1, 8, .inl (fun j => nI (mm 1 j)))), (b2, .inl (kb2, 40, .inl (fun j => nI (mm 2 j)))), (b3, .inl (kb3, 40, .inl (fun j => nI (mm 3 j)))), (b4, .inl (kb4, 40, .inl (fun j => nI (mm 4 j)))), (b5, .inl (kb5, 40, .inl (fun j => nI (mm 5 j)))), (b6, .inl (kb6, 40, .inl (fun j => nI (mm 6 j)))), (b7, .inl (kb7, 40, .inl (fun j => nI (mm 7 j)))), (b8, .inl (kb8, 40, .inl (fun j => nI (mm 8 j)))), (b9, .inl (kb9, 40, .inl (fun j => nI (mm 9 j)))), (b10, .inl (kb10, 40, .inl (fun j => nI (mm 10 j)))), (b11, .inl (kb11, 40, .inl (fun j => nI (mm 11 j))))] [(kb0, .int), (kb1, .int), (kb2, .int), (kb3, .int), (kb4, .int), (kb5, .int), (kb6, .int), (kb7, .int), (kb8, .int), (kb9, .int), (kb10, .int), (kb11, .int)] (fun _ => True) (fun r => r = nI (zEn mm (mg - 1) n)) := by
  refine zp_head (cc := cMD_rows) (maxL := 1) (ret := (some .int)) (by decide +kernel) rfl (Nat.le_of_ble_eq_true rfl) ?_
  intro p e s m below meth c ls F hP hK hX hl
  obtain ⟨hx, hb, hml, hr, hlocks, hown, hts⟩ := F
  have hown : s.vm.findClass "SpannedCellsModel" = some m.cls := hown
  have hz : ∀ w9 ∈ zT, w9.before [.ref h0].toArray s = true := fun w9 h => hts w9 (List.mem_cons_of_mem _ h)
  have hl : lv_has ls 1 [(0, .ref h0)] := hl
  refine z_q (fun Q hQ => ?_)
  refine lv_aload_n hx hb dMD_rows_0 rfl (lv_at hl 0 rfl) ?_
  refine lv_aload_n hx hb dMD_rows_1 rfl (lv_at hl 0 rfl) ?_
  refine va_get (D := (dC, dI)) (ci := 6) (v := .int (nI mg)) (C := RMD) (T := TMD) (N := 26) hx hb hz in_MD hown hK hP 0 rfl rfl 0 (by decide) (hz _ wd_584) (fun _ h9 => h9) rfl dMD_rows_2 ?_
  refine lv_iconst (v := nI 1) hx hb dMD_rows_5 (by decide) ?_
  refine lv_isub hx hb dMD_rows_6 ?_
  refine lv_topi (fun x1 e2 => ?_)
  have e2 : x1 = nI (mg - 1) := e2.trans (pk_sub (by omega))
  subst e2
  refine vp_callSi (W.runV (As := [.int (nI (mg - 1))]) (rest := []) ⟨hx, hb, hml, hown, hz⟩ (f_MD_endOf l dC dI h0 b0 b1 b2 b3 b4 b5 b6 b7 b8 b9 b10 b11 b12 b13 b14 b15 b16 b17 kb0 kb1 kb2 kb3 kb4 kb5 kb6 kb7 kb8 kb9 kb10 kb11 mg n _ rn ro sp gp fx _ (mg - 1) (hm) (by omega) (hg) (hG) (hE) (by omega)) (cwV 1 hz (z_gV wd_668 wd_670 wd_13 wd_37 wd_671) rfl rfl rfl (by decide +kernel) ⟨Nat.le_of_ble_eq_true rfl, Nat.le_of_ble_eq_true rfl⟩) (zr_preV hK (hP.sub [0, 1, 2, 3, 4, 5, 6, 7, 8, 9, 10, 11, 12] rfl) (va_recv (q0 := 0) hK hP (q := (RMD, TMD, 26)) rfl rfl) [0, 1, 2, 3, 4, 5, 6, 7, 8, 9, 10, 11] rfl z_true (fun _ _ _ => trivial)) rfl rfl hl.1 rfl (lv_room (Nat.le_of_ble_eq_true rfl)) dMD_rows_7 ⟨Nat.le_of_ble_eq_true rfl, Nat.le_of_ble_eq_true rfl⟩) (fun r3 h_r3 => ?_)
  have h_r3 : r3 = nI (zEn mm (mg - 1) n) := h_r3
  subst h_r3
  subst hQ
  exact zp_iret hx hb hr hlocks (rfl) dMD_rows_10

set_option maxHeartbeats 4000000 in
set_option maxRecDepth 100000 in
theorem f_MD_columns (l : Launch) (dC : Nat → ClassId) (dI : Nat → Nat → Nat) (h0 : Nat) (b0 : Nat) (b1 : Nat) (b2 : Nat) (b3 : Nat) (b4 : Nat) (b5 : Nat) (b6 : Nat) (b7 : Nat) (b8 : Nat) (b9 : Nat) (b10 : Nat) (b11 : Nat) (b12 : Nat) (b13 : Nat) (b14 : Nat) (b15 : Nat) (b16 : Nat) (b17 : Nat) (kb0 : ClassId) (kb1 : ClassId) (kb2 : ClassId) (kb3 : ClassId) (kb4 : ClassId) (kb5 : ClassId) (kb6 : ClassId) (kb7 : ClassId) (kb8 : ClassId) (kb9 : ClassId) (kb10 : ClassId) (kb11 : ClassId) (mg : Nat) (n : Nat) (rg : Nat) (rn : Nat) (ro : Nat) (sp : Nat) (gp : Nat) (fx : Nat) (mm : Nat → Nat → Nat) (hm : ∀ a k, mm a k ≤ 1000) (hn : n ≤ 40) (hg : 1 ≤ mg ∧ mg ≤ 8 ∧ rg ≤ 8 ∧ rn ≤ 1000 ∧ ro ≤ 1000) (hG : ∀ k, k < n → mm 6 k < 8) (hE : ∀ k, k < n → mm 3 k ≤ zEn mm (mm 6 k) n) : zp_M l yMD_columns wMD_columns ({ frames := 0, cells := 0, slots := 0, locals := 0 }) [.ref h0] (dC, dI) vwCl [(h0, .inr (6, [.int (nI mg), .ref b0, .ref b1, .int (nI n), .ref b2, .ref b3, .ref b4, .ref b5, .ref b6, .ref b7, .ref b8, .ref b9, .ref b10, .ref b11, .int (nI rg - nI 1), .int (nI rn), .int (nI ro), .int (nI sp), .int (nI gp), .int (nI fx), .ref b12, .ref b13, .ref b14, .ref b15, .ref b16, .ref b17])), (b0, .inl (kb0, 8, .inl (fun j => nI (mm 0 j)))), (b1, .inl (kb1, 8, .inl (fun j => nI (mm 1 j)))), (b2, .inl (kb2, 40, .inl (fun j => nI (mm 2 j)))), (b3, .inl (kb3, 40, .inl (fun j => nI (mm 3 j)))), (b4, .inl (kb4, 40, .inl (fun j => nI (mm 4 j)))), (b5, .inl (kb5, 40, .inl (fun j => nI (mm 5 j)))), (b6, .inl (kb6, 40, .inl (fun j => nI (mm 6 j)))), (b7, .inl (kb7, 40, .inl (fun j => nI (mm 7 j)))), (b8, .inl (kb8, 40, .inl (fun j => nI (mm 8 j)))), (b9, .inl (kb9, 40, .inl (fun j => nI (mm 9 j)))), (b10, .inl (kb10, 40, .inl (fun j => nI (mm 10 j)))), (b11, .inl (kb11, 40, .inl (fun j => nI (mm 11 j))))] [(kb0, .int), (kb1, .int), (kb2, .int), (kb3, .int), (kb4, .int), (kb5, .int), (kb6, .int), (kb7, .int), (kb8, .int), (kb9, .int), (kb10, .int), (kb11, .int)] (fun _ => True) (fun r => r = nI (zCo mm n)) := by
  refine zp_head (cc := cMD_columns) (maxL := 3) (ret := (some .int)) (by decide +kernel) rfl (Nat.le_of_ble_eq_true rfl) ?_
  intro p e s m below meth c ls F hP hK hX hl
  obtain ⟨hx, hb, hml, hr, hlocks, hown, hts⟩ := F
  have hown : s.vm.findClass "SpannedCellsModel" = some m.cls := hown
  have hz : ∀ w9 ∈ zT, w9.before [.ref h0].toArray s = true := fun w9 h => hts w9 (List.mem_cons_of_mem _ h)
  have hl : lv_has ls 3 [(0, .ref h0)] := hl
  refine z_q (fun Q hQ => ?_)
  refine lv_iconst (v := nI 0) hx hb dMD_columns_0 (by decide) ?_
  refine lv_istore_n hx hb dMD_columns_1 rfl hl (Nat.le_of_ble_eq_true rfl) rfl (fun ls hl => ?_)
  have hl : lv_has ls 3 [(1, .int (nI 0)), (0, .ref h0)] := hl
  refine lv_iconst (v := nI 0) hx hb dMD_columns_2 (by decide) ?_
  refine lv_istore_n hx hb dMD_columns_3 rfl hl (Nat.le_of_ble_eq_true rfl) rfl (fun ls hl => ?_)
  have hl : lv_has ls 3 [(2, .int (nI 0)), (1, .int (nI 0)), (0, .ref h0)] := hl
  refine zl_up (σ := Unit) n (fun i x9 ls => lv_has ls 3 [(2, .int (nI i)), (1, .int (nI (zCo mm i))), (0, .ref h0)]) ?_ ?_ 0 (Nat.zero_le _) () ls (lv_sub hl [0, 1, 2] rfl)
  · intro x9 ls hI
    have hl := hI
    have hl : lv_has ls 3 [(2, .int (nI n)), (1, .int (nI (zCo mm n))), (0, .ref h0)] := hl
    refine lv_iload_n hx hb dMD_columns_4 rfl (lv_at hl 0 rfl) ?_
    refine lv_aload_n hx hb dMD_columns_5 rfl (lv_at hl 2 rfl) ?_
    refine va_get (D := (dC, dI)) (ci := 6) (v := .int (nI n)) (C := RMD) (T := TMD) (N := 26) hx hb hz in_MD hown hK hP 0 rfl rfl 3 (by decide) (hz _ wd_587) (fun _ h9 => h9) rfl dMD_columns_6 ?_
    have t1 := nI_toInt (n := n) (by omega)
    have t2 := nI_toInt (n := n) (by omega)
    refine lv_icmp_ge (tgt := 53) hx hb dMD_columns_9 rfl (fun _ => ?_) (fun h => by have h := z_nle h; omega)
    refine lv_iload_n hx hb dMD_columns_53 rfl (lv_at hl 1 rfl) ?_
    subst hQ
    exact zp_iret hx hb hr hlocks (rfl) dMD_columns_54
  · intro i hi ih
    intro x9 ls hI
    have hl := hI
    have hl : lv_has ls 3 [(2, .int (nI i)), (1, .int (nI (zCo mm i))), (0, .ref h0)] := hl
    refine lv_iload_n hx hb dMD_columns_4 rfl (lv_at hl 0 rfl) ?_
    refine lv_aload_n hx hb dMD_columns_5 rfl (lv_at hl 2 rfl) ?_
    refine va_get (D := (dC, dI)) (ci := 6) (v := .int (nI n)) (C := RMD) (T := TMD) (N := 26) hx hb hz in_MD hown hK hP 0 rfl rfl 3 (by decide) (hz _ wd_587) (fun _ h9 => h9) rfl dMD_columns_6 ?_
    have t3 := nI_toInt (n := i) (by omega)
    have t4 := nI_toInt (n := n) (by omega)
    refine lv_icmp_ge (tgt := 53) hx hb dMD_columns_9 rfl (fun h => by have h := z_le h; omega) (fun _ => ?_)
    refine z_join (fun v1 : Int32 => v1 = nI (zCo mm (i + 1))) (fun v1 => W p l e ({ frames := 0, cells := 0, slots := 0, locals := 0 }) s m [.ref h0].toArray below meth c s.heap [] 0 0 Q (F0 m 46 ls (.int v1 :: []))) (fun v1 hv1 => ?_) (fun J46 => ?_)
    · subst hv1
      refine lv_istore_n hx hb dMD_columns_46 rfl hl (Nat.le_of_ble_eq_true rfl) rfl (fun ls hl => ?_)
      have hl : lv_has ls 3 [(1, .int (nI (zCo mm (i + 1)))), (2, .int (nI i)), (0, .ref h0)] := hl
      refine lv_iinc (k := 1) (v := nI (i + 1)) hx hb dMD_columns_47 hl rfl (by rw [show Int32.ofInt 1 = nI 1 from by decide]; exact nI_add _ _) (Nat.le_of_ble_eq_true rfl) rfl (fun ls hl => ?_)
      have hl : lv_has ls 3 [(2, .int (nI (i + 1))), (1, .int (nI (zCo mm (i + 1)))), (0, .ref h0)] := hl
      refine lv_goto (tgt := 4) hx hb dMD_columns_50 rfl ?_
      exact ih () ls (lv_sub hl [0, 1, 2] rfl)
    · refine lv_aload_n hx hb dMD_columns_12 rfl (lv_at hl 2 rfl) ?_
      refine va_get (D := (dC, dI)) (ci := 6) (v := .ref b2) (C := RMD) (T := TMD) (N := 26) hx hb hz in_MD hown hK hP 0 rfl rfl 4 (by decide) (hz _ wd_588) (fun _ h9 => h9) rfl dMD_columns_13 ?_
      refine lv_iload_n hx hb dMD_columns_16 rfl (lv_at hl 0 rfl) ?_
      refine va_iald hx hb hK hP 3 2 rfl rfl (vp_in_nI (by omega) (by omega)) dMD_columns_17 ?_
      refine lv_topi (fun x5 e6 => ?_)
      have e6 : x5 = nI (mm 2 i) := e6.trans (by show nI (mm 2 (nI i).toNatClampNeg) = _; rw [nI_clamp (by omega)])
      subst e6
      refine lv_aload_n hx hb dMD_columns_18 rfl (lv_at hl 2 rfl) ?_
      refine va_get (D := (dC, dI)) (ci := 6) (v := .ref b4) (C := RMD) (T := TMD) (N := 26) hx hb hz in_MD hown hK hP 0 rfl rfl 6 (by decide) (hz _ wd_590) (fun _ h9 => h9) rfl dMD_columns_19 ?_
      refine lv_iload_n hx hb dMD_columns_22 rfl (lv_at hl 0 rfl) ?_
      refine va_iald hx hb hK hP 5 4 rfl rfl (vp_in_nI (by omega) (by omega)) dMD_columns_23 ?_
      refine lv_topi (fun x7 e8 => ?_)
      have e8 : x7 = nI (mm 4 i) := e8.trans (by show nI (mm 4 (nI i).toNatClampNeg) = _; rw [nI_clamp (by omega)])
      subst e8
      refine lv_iadd hx hb dMD_columns_24 ?_
      refine lv_topi (fun x9 e10 => ?_)
      have e10 : x9 = nI ((mm 2 i) + (mm 4 i)) := e10.trans (nI_add _ _)
      subst e10
      refine lv_iload_n hx hb dMD_columns_25 rfl (lv_at hl 1 rfl) ?_
      have t11 := hm 2 i
      have t12 := hm 4 i
      have t13 := nI_toInt (n := (mm 2 i) + (mm 4 i)) (by omega)
      have t14 := zCo_le hm i
      have t15 := nI_toInt (n := zCo mm i) (by omega)
      refine lv_icmp_le (tgt := 45) hx hb dMD_columns_26 rfl (fun h16 => ?_) (fun h16 => ?_)
      · have h16 := z_le h16
        refine lv_iload_n hx hb dMD_columns_45 rfl (lv_at hl 1 rfl) ?_
        exact J46 _ (by rw [zCo_0 (by omega)])
      · have h16 := z_nle h16
        refine lv_aload_n hx hb dMD_columns_29 rfl (lv_at hl 2 rfl) ?_
        refine va_get (D := (dC, dI)) (ci := 6) (v := .ref b2) (C := RMD) (T := TMD) (N := 26) hx hb hz in_MD hown hK hP 0 rfl rfl 4 (by decide) (hz _ wd_588) (fun _ h9 => h9) rfl dMD_columns_30 ?_
        refine lv_iload_n hx hb dMD_columns_33 rfl (lv_at hl 0 rfl) ?_
        refine va_iald hx hb hK hP 3 2 rfl rfl (vp_in_nI (by omega) (by omega)) dMD_columns_34 ?_
        refine lv_topi (fun x17 e18 => ?_)
        have e18 : x17 = nI (mm 2 i) := e18.trans (by show nI (mm 2 (nI i).toNatClampNeg) = _; rw [nI_clamp (by omega)])
        subst e18
        refine lv_aload_n hx hb dMD_columns_35 rfl (lv_at hl 2 rfl) ?_
        refine va_get (D := (dC, dI)) (ci := 6) (v := .ref b4) (C := RMD) (T := TMD) (N := 26) hx hb hz in_MD hown hK hP 0 rfl rfl 6 (by decide) (hz _ wd_590) (fun _ h9 => h9) rfl dMD_columns_36 ?_
        refine lv_iload_n hx hb dMD_columns_39 rfl (lv_at hl 0 rfl) ?_
        refine va_iald hx hb hK hP 5 4 rfl rfl (vp_in_nI (by omega) (by omega)) dMD_columns_40 ?_
        refine lv_topi (fun x19 e20 => ?_)
        have e20 : x19 = nI (mm 4 i) := e20.trans (by show nI (mm 4 (nI i).toNatClampNeg) = _; rw [nI_clamp (by omega)])
        subst e20
        refine lv_iadd hx hb dMD_columns_41 ?_
        refine lv_topi (fun x21 e22 => ?_)
        have e22 : x21 = nI ((mm 2 i) + (mm 4 i)) := e22.trans (nI_add _ _)
        subst e22
        refine lv_goto (tgt := 46) hx hb dMD_columns_42 rfl ?_
        exact J46 _ (by rw [zCo_1 (by omega)])

set_option maxHeartbeats 4000000 in
set_option maxRecDepth 100000 in
theorem f_MD_down (l : Launch) (dC : Nat → ClassId) (dI : Nat → Nat → Nat) (h0 : Nat) (b0 : Nat) (b1 : Nat) (b2 : Nat) (b3 : Nat) (b4 : Nat) (b5 : Nat) (b6 : Nat) (b7 : Nat) (b8 : Nat) (b9 : Nat) (b10 : Nat) (b11 : Nat) (b12 : Nat) (b13 : Nat) (b14 : Nat) (b15 : Nat) (b16 : Nat) (b17 : Nat) (kb0 : ClassId) (kb1 : ClassId) (kb2 : ClassId) (kb3 : ClassId) (kb4 : ClassId) (kb5 : ClassId) (kb6 : ClassId) (kb7 : ClassId) (kb8 : ClassId) (kb9 : ClassId) (kb10 : ClassId) (kb11 : ClassId) (mg : Nat) (n : Nat) (rg : Nat) (rn : Nat) (ro : Nat) (sp : Nat) (gp : Nat) (fx : Nat) (mm : Nat → Nat → Nat) (k : Nat) (hm : ∀ a k, mm a k ≤ 1000) (hn : n ≤ 40) (hg : 1 ≤ mg ∧ mg ≤ 8 ∧ rg ≤ 8 ∧ rn ≤ 1000 ∧ ro ≤ 1000) (hG : ∀ k, k < n → mm 6 k < 8) (hE : ∀ k, k < n → mm 3 k ≤ zEn mm (mm 6 k) n) (hk : k < n) : zp_M l yMD_down wMD_down ({ frames := 1, cells := 0, slots := 0, locals := 24 }) [.ref h0, .int (nI k)] (dC, dI) vwCl [(h0, .inr (6, [.int (nI mg), .ref b0, .ref b1, .int (nI n), .ref b2, .ref b3, .ref b4, .ref b5, .ref b6, .ref b7, .ref b8, .ref b9, .ref b10, .ref b11, .int (nI rg - nI 1), .int (nI rn), .int (nI ro), .int (nI sp), .int (nI gp), .int (nI fx), .ref b12, .ref b13, .ref b14, .ref b15, .ref b16, .ref b17])), (b0, .inl (kb0, 8, .inl (fun j => nI (mm 0 j)))), (b1, .inl (kb1, 8, .inl (fun j => nI (mm 1 j)))), (b2, .inl (kb2, 40, .inl (fun j => nI (mm 2 j)))), (b3, .inl (kb3, 40, .inl (fun j => nI (mm 3 j)))), (b4, .inl (kb4, 40, .inl (fun j => nI (mm 4 j)))), (b5, .inl (kb5, 40, .inl (fun j => nI (mm 5 j)))), (b6, .inl (kb6, 40, .inl (fun j => nI (mm 6 j)))), (b7, .inl (kb7, 40, .inl (fun j => nI (mm 7 j)))), (b8, .inl (kb8, 40, .inl (fun j => nI (mm 8 j)))), (b9, .inl (kb9, 40, .inl (fun j => nI (mm 9 j)))), (b10, .inl (kb10, 40, .inl (fun j => nI (mm 10 j)))), (b11, .inl (kb11, 40, .inl (fun j => nI (mm 11 j))))] [(kb0, .int), (kb1, .int), (kb2, .int), (kb3, .int), (kb4, .int), (kb5, .int), (kb6, .int), (kb7, .int), (kb8, .int), (kb9, .int), (kb10, .int), (kb11, .int)] (fun _ => True) (fun r => r = nI (zDn mm n k)) := by
  refine zp_head (cc := cMD_down) (maxL := 2) (ret := (some .int)) (by decide +kernel) rfl (Nat.le_of_ble_eq_true rfl) ?_
  intro p e s m below meth c ls F hP hK hX hl
  obtain ⟨hx, hb, hml, hr, hlocks, hown, hts⟩ := F
  have hown : s.vm.findClass "SpannedCellsModel" = some m.cls := hown
  have hz : ∀ w9 ∈ zT, w9.before [.ref h0, .int (nI k)].toArray s = true := fun w9 h => hts w9 (List.mem_cons_of_mem _ h)
  have hl : lv_has ls 2 [(0, .ref h0), (1, .int (nI k))] := hl
  refine z_q (fun Q hQ => ?_)
  refine lv_aload_n hx hb dMD_down_0 rfl (lv_at hl 0 rfl) ?_
  refine va_get (D := (dC, dI)) (ci := 6) (v := .ref b5) (C := RMD) (T := TMD) (N := 26) hx hb hz in_MD hown hK hP 0 rfl rfl 7 (by decide) (hz _ wd_591) (fun _ h9 => h9) rfl dMD_down_1 ?_
  refine lv_iload_n hx hb dMD_down_4 rfl (lv_at hl 1 rfl) ?_
  refine va_iald hx hb hK hP 6 5 rfl rfl (vp_in_nI (by omega) (by omega)) dMD_down_5 ?_
  refine lv_topi (fun x1 e2 => ?_)
  have e2 : x1 = nI (mm 5 k) := e2.trans (by show nI (mm 5 (nI k).toNatClampNeg) = _; rw [nI_clamp (by omega)])
  subst e2
  have t3 := hm 5 k
  have t4 := nI_toInt (n := mm 5 k) (by omega)
  have t5 : (0 : Int32).toInt = 0 := by decide
  refine lv_if_le (tgt := 18) hx hb dMD_down_6 rfl (fun h6 => ?_) (fun h6 => ?_)
  · have h6 := z_le h6
    refine lv_aload_n hx hb dMD_down_18 rfl (lv_at hl 0 rfl) ?_
    refine lv_aload_n hx hb dMD_down_19 rfl (lv_at hl 0 rfl) ?_
    refine va_get (D := (dC, dI)) (ci := 6) (v := .ref b6) (C := RMD) (T := TMD) (N := 26) hx hb hz in_MD hown hK hP 0 rfl rfl 8 (by decide) (hz _ wd_592) (fun _ h9 => h9) rfl dMD_down_20 ?_
    refine lv_iload_n hx hb dMD_down_23 rfl (lv_at hl 1 rfl) ?_
    refine va_iald hx hb hK hP 7 6 rfl rfl (vp_in_nI (by omega) (by omega)) dMD_down_24 ?_
    refine lv_topi (fun x7 e8 => ?_)
    have e8 : x7 = nI (mm 6 k) := e8.trans (by show nI (mm 6 (nI k).toNatClampNeg) = _; rw [nI_clamp (by omega)])
    subst e8
    refine vp_callSi (W.runV (As := [.int (nI (mm 6 k))]) (rest := []) ⟨hx, hb, hml, hown, hz⟩ (f_MD_endOf l dC dI h0 b0 b1 b2 b3 b4 b5 b6 b7 b8 b9 b10 b11 b12 b13 b14 b15 b16 b17 kb0 kb1 kb2 kb3 kb4 kb5 kb6 kb7 kb8 kb9 kb10 kb11 mg n _ rn ro sp gp fx _ (mm 6 k) (hm) (by omega) (hg) (hG) (hE) (hG k hk)) (cwV 1 hz (z_gV wd_668 wd_670 wd_13 wd_37 wd_671) rfl rfl rfl (by decide +kernel) ⟨Nat.le_of_ble_eq_true rfl, Nat.le_of_ble_eq_true rfl⟩) (zr_preV hK (hP.sub [0, 1, 2, 3, 4, 5, 6, 7, 8, 9, 10, 11, 12] rfl) (va_recv (q0 := 0) hK hP (q := (RMD, TMD, 26)) rfl rfl) [0, 1, 2, 3, 4, 5, 6, 7, 8, 9, 10, 11] rfl z_true (fun _ _ _ => trivial)) rfl rfl hl.1 rfl (lv_room (Nat.le_of_ble_eq_true rfl)) dMD_down_25 ⟨Nat.le_of_ble_eq_true rfl, Nat.le_of_ble_eq_true rfl⟩) (fun r9 h_r9 => ?_)
    have h_r9 : r9 = nI (zEn mm (mm 6 k) n) := h_r9
    subst h_r9
    refine lv_aload_n hx hb dMD_down_28 rfl (lv_at hl 0 rfl) ?_
    refine va_get (D := (dC, dI)) (ci := 6) (v := .ref b3) (C := RMD) (T := TMD) (N := 26) hx hb hz in_MD hown hK hP 0 rfl rfl 5 (by decide) (hz _ wd_589) (fun _ h9 => h9) rfl dMD_down_29 ?_
    refine lv_iload_n hx hb dMD_down_32 rfl (lv_at hl 1 rfl) ?_
    refine va_iald hx hb hK hP 4 3 rfl rfl (vp_in_nI (by omega) (by omega)) dMD_down_33 ?_
    refine lv_topi (fun x10 e11 => ?_)
    have e11 : x10 = nI (mm 3 k) := e11.trans (by show nI (mm 3 (nI k).toNatClampNeg) = _; rw [nI_clamp (by omega)])
    subst e11
    refine lv_isub hx hb dMD_down_34 ?_
    refine lv_topi (fun x12 e13 => ?_)
    have e13 : x12 = nI (zEn mm (mm 6 k) n - mm 3 k) := e13.trans (pk_sub (hE k hk))
    subst e13
    subst hQ
    exact zp_iret hx hb hr hlocks (by rw [zDn_F (by omega)]) dMD_down_35
  · have h6 := z_nle h6
    refine lv_aload_n hx hb dMD_down_9 rfl (lv_at hl 0 rfl) ?_
    refine va_get (D := (dC, dI)) (ci := 6) (v := .ref b5) (C := RMD) (T := TMD) (N := 26) hx hb hz in_MD hown hK hP 0 rfl rfl 7 (by decide) (hz _ wd_591) (fun _ h9 => h9) rfl dMD_down_10 ?_
    refine lv_iload_n hx hb dMD_down_13 rfl (lv_at hl 1 rfl) ?_
    refine va_iald hx hb hK hP 6 5 rfl rfl (vp_in_nI (by omega) (by omega)) dMD_down_14 ?_
    refine lv_topi (fun x14 e15 => ?_)
    have e15 : x14 = nI (mm 5 k) := e15.trans (by show nI (mm 5 (nI k).toNatClampNeg) = _; rw [nI_clamp (by omega)])
    subst e15
    refine lv_goto (tgt := 35) hx hb dMD_down_15 rfl ?_
    subst hQ
    exact zp_iret hx hb hr hlocks (by rw [zDn_T (by omega)]) dMD_down_35

set_option maxHeartbeats 4000000 in
set_option maxRecDepth 100000 in
theorem f_MD_takes (l : Launch) (dC : Nat → ClassId) (dI : Nat → Nat → Nat) (h0 : Nat) (b0 : Nat) (b1 : Nat) (b2 : Nat) (b3 : Nat) (b4 : Nat) (b5 : Nat) (b6 : Nat) (b7 : Nat) (b8 : Nat) (b9 : Nat) (b10 : Nat) (b11 : Nat) (b12 : Nat) (b13 : Nat) (b14 : Nat) (b15 : Nat) (b16 : Nat) (b17 : Nat) (kb0 : ClassId) (kb1 : ClassId) (kb2 : ClassId) (kb3 : ClassId) (kb4 : ClassId) (kb5 : ClassId) (kb6 : ClassId) (kb7 : ClassId) (kb8 : ClassId) (kb9 : ClassId) (kb10 : ClassId) (kb11 : ClassId) (mg : Nat) (n : Nat) (rg : Nat) (rn : Nat) (ro : Nat) (sp : Nat) (gp : Nat) (fx : Nat) (mm : Nat → Nat → Nat) (k : Nat) (x : Int32) (y : Int32) (hm : ∀ a k, mm a k ≤ 1000) (hn : n ≤ 40) (hg : 1 ≤ mg ∧ mg ≤ 8 ∧ rg ≤ 8 ∧ rn ≤ 1000 ∧ ro ≤ 1000) (hG : ∀ k, k < n → mm 6 k < 8) (hE : ∀ k, k < n → mm 3 k ≤ zEn mm (mm 6 k) n) (hk : k < n) : zp_M l yMD_takes wMD_takes ({ frames := 2, cells := 0, slots := 0, locals := 45 }) [.ref h0, .int (nI k), .int x, .int y] (dC, dI) vwCl [(h0, .inr (6, [.int (nI mg), .ref b0, .ref b1, .int (nI n), .ref b2, .ref b3, .ref b4, .ref b5, .ref b6, .ref b7, .ref b8, .ref b9, .ref b10, .ref b11, .int (nI rg - nI 1), .int (nI rn), .int (nI ro), .int (nI sp), .int (nI gp), .int (nI fx), .ref b12, .ref b13, .ref b14, .ref b15, .ref b16, .ref b17])), (b0, .inl (kb0, 8, .inl (fun j => nI (mm 0 j)))), (b1, .inl (kb1, 8, .inl (fun j => nI (mm 1 j)))), (b2, .inl (kb2, 40, .inl (fun j => nI (mm 2 j)))), (b3, .inl (kb3, 40, .inl (fun j => nI (mm 3 j)))), (b4, .inl (kb4, 40, .inl (fun j => nI (mm 4 j)))), (b5, .inl (kb5, 40, .inl (fun j => nI (mm 5 j)))), (b6, .inl (kb6, 40, .inl (fun j => nI (mm 6 j)))), (b7, .inl (kb7, 40, .inl (fun j => nI (mm 7 j)))), (b8, .inl (kb8, 40, .inl (fun j => nI (mm 8 j)))), (b9, .inl (kb9, 40, .inl (fun j => nI (mm 9 j)))), (b10, .inl (kb10, 40, .inl (fun j => nI (mm 10 j)))), (b11, .inl (kb11, 40, .inl (fun j => nI (mm 11 j))))] [(kb0, .int), (kb1, .int), (kb2, .int), (kb3, .int), (kb4, .int), (kb5, .int), (kb6, .int), (kb7, .int), (kb8, .int), (kb9, .int), (kb10, .int), (kb11, .int)] (fun _ => True) (fun r => z_yn r (zTk (mm 2 k) (mm 4 k) (mm 3 k) (zDn mm n k) x y)) := by
  refine zp_head (cc := cMD_takes) (maxL := 4) (ret := (some .boolean)) (by decide +kernel) rfl (Nat.le_of_ble_eq_true rfl) ?_
  intro p e s m below meth c ls F hP hK hX hl
  obtain ⟨hx, hb, hml, hr, hlocks, hown, hts⟩ := F
  have hown : s.vm.findClass "SpannedCellsModel" = some m.cls := hown
  have hz : ∀ w9 ∈ zT, w9.before [.ref h0, .int (nI k), .int x, .int y].toArray s = true := fun w9 h => hts w9 (List.mem_cons_of_mem _ h)
  have hl : lv_has ls 4 [(0, .ref h0), (1, .int (nI k)), (2, .int x), (3, .int y)] := hl
  refine z_q (fun Q hQ => ?_)
  refine lv_iload_n hx hb dMD_takes_0 rfl (lv_at hl 2 rfl) ?_
  refine lv_aload_n hx hb dMD_takes_1 rfl (lv_at hl 0 rfl) ?_
  refine va_get (D := (dC, dI)) (ci := 6) (v := .ref b2) (C := RMD) (T := TMD) (N := 26) hx hb hz in_MD hown hK hP 0 rfl rfl 4 (by decide) (hz _ wd_588) (fun _ h9 => h9) rfl dMD_takes_2 ?_
  refine lv_iload_n hx hb dMD_takes_5 rfl (lv_at hl 1 rfl) ?_
  refine va_iald hx hb hK hP 3 2 rfl rfl (vp_in_nI (by omega) (by omega)) dMD_takes_6 ?_
  refine lv_topi (fun x1 e2 => ?_)
  have e2 : x1 = nI (mm 2 k) := e2.trans (by show nI (mm 2 (nI k).toNatClampNeg) = _; rw [nI_clamp (by omega)])
  subst e2
  have t3 := hm 2 k
  have t4 := nI_toInt (n := mm 2 k) (by omega)
  refine lv_icmp_lt (tgt := 57) hx hb dMD_takes_7 rfl (fun h5 => ?_) (fun h5 => ?_)
  · have h5 := z_lt h5
    refine lv_iconst (v := nI 0) hx hb dMD_takes_57 (by decide) ?_
    subst hQ
    exact zp_zret hx hb hr hlocks (Or.inl rfl) (z_tk0 (by omega)) dMD_takes_58
  · have h5 := z_nlt h5
    refine lv_iload_n hx hb dMD_takes_10 rfl (lv_at hl 2 rfl) ?_
    refine lv_aload_n hx hb dMD_takes_11 rfl (lv_at hl 0 rfl) ?_
    refine va_get (D := (dC, dI)) (ci := 6) (v := .ref b2) (C := RMD) (T := TMD) (N := 26) hx hb hz in_MD hown hK hP 0 rfl rfl 4 (by decide) (hz _ wd_588) (fun _ h9 => h9) rfl dMD_takes_12 ?_
    refine lv_iload_n hx hb dMD_takes_15 rfl (lv_at hl 1 rfl) ?_
    refine va_iald hx hb hK hP 3 2 rfl rfl (vp_in_nI (by omega) (by omega)) dMD_takes_16 ?_
    refine lv_topi (fun x6 e7 => ?_)
    have e7 : x6 = nI (mm 2 k) := e7.trans (by show nI (mm 2 (nI k).toNatClampNeg) = _; rw [nI_clamp (by omega)])
    subst e7
    refine lv_aload_n hx hb dMD_takes_17 rfl (lv_at hl 0 rfl) ?_
    refine va_get (D := (dC, dI)) (ci := 6) (v := .ref b4) (C := RMD) (T := TMD) (N := 26) hx hb hz in_MD hown hK hP 0 rfl rfl 6 (by decide) (hz _ wd_590) (fun _ h9 => h9) rfl dMD_takes_18 ?_
    refine lv_iload_n hx hb dMD_takes_21 rfl (lv_at hl 1 rfl) ?_
    refine va_iald hx hb hK hP 5 4 rfl rfl (vp_in_nI (by omega) (by omega)) dMD_takes_22 ?_
    refine lv_topi (fun x8 e9 => ?_)
    have e9 : x8 = nI (mm 4 k) := e9.trans (by show nI (mm 4 (nI k).toNatClampNeg) = _; rw [nI_clamp (by omega)])
    subst e9
    refine lv_iadd hx hb dMD_takes_23 ?_
    refine lv_topi (fun x10 e11 => ?_)
    have e11 : x10 = nI ((mm 2 k) + (mm 4 k)) := e11.trans (nI_add _ _)
    subst e11
    have t12 := hm 2 k
    have t13 := hm 4 k
    have t14 := nI_toInt (n := (mm 2 k) + (mm 4 k)) (by omega)
    refine lv_icmp_ge (tgt := 57) hx hb dMD_takes_24 rfl (fun h15 => ?_) (fun h15 => ?_)
    · have h15 := z_le h15
      refine lv_iconst (v := nI 0) hx hb dMD_takes_57 (by decide) ?_
      subst hQ
      exact zp_zret hx hb hr hlocks (Or.inl rfl) (z_tk0 (by omega)) dMD_takes_58
    · have h15 := z_nle h15
      refine lv_iload_n hx hb dMD_takes_27 rfl (lv_at hl 3 rfl) ?_
      refine lv_aload_n hx hb dMD_takes_28 rfl (lv_at hl 0 rfl) ?_
      refine va_get (D := (dC, dI)) (ci := 6) (v := .ref b3) (C := RMD) (T := TMD) (N := 26) hx hb hz in_MD hown hK hP 0 rfl rfl 5 (by decide) (hz _ wd_589) (fun _ h9 => h9) rfl dMD_takes_29 ?_
      refine lv_iload_n hx hb dMD_takes_32 rfl (lv_at hl 1 rfl) ?_
      refine va_iald hx hb hK hP 4 3 rfl rfl (vp_in_nI (by omega) (by omega)) dMD_takes_33 ?_
      refine lv_topi (fun x16 e17 => ?_)
      have e17 : x16 = nI (mm 3 k) := e17.trans (by show nI (mm 3 (nI k).toNatClampNeg) = _; rw [nI_clamp (by omega)])
      subst e17
      have t18 := hm 3 k
      have t19 := nI_toInt (n := mm 3 k) (by omega)
      refine lv_icmp_lt (tgt := 57) hx hb dMD_takes_34 rfl (fun h20 => ?_) (fun h20 => ?_)
      · have h20 := z_lt h20
        refine lv_iconst (v := nI 0) hx hb dMD_takes_57 (by decide) ?_
        subst hQ
        exact zp_zret hx hb hr hlocks (Or.inl rfl) (z_tk0 (by omega)) dMD_takes_58
      · have h20 := z_nlt h20
        refine lv_iload_n hx hb dMD_takes_37 rfl (lv_at hl 3 rfl) ?_
        refine lv_aload_n hx hb dMD_takes_38 rfl (lv_at hl 0 rfl) ?_
        refine va_get (D := (dC, dI)) (ci := 6) (v := .ref b3) (C := RMD) (T := TMD) (N := 26) hx hb hz in_MD hown hK hP 0 rfl rfl 5 (by decide) (hz _ wd_589) (fun _ h9 => h9) rfl dMD_takes_39 ?_
        refine lv_iload_n hx hb dMD_takes_42 rfl (lv_at hl 1 rfl) ?_
        refine va_iald hx hb hK hP 4 3 rfl rfl (vp_in_nI (by omega) (by omega)) dMD_takes_43 ?_
        refine lv_topi (fun x21 e22 => ?_)
        have e22 : x21 = nI (mm 3 k) := e22.trans (by show nI (mm 3 (nI k).toNatClampNeg) = _; rw [nI_clamp (by omega)])
        subst e22
        refine lv_aload_n hx hb dMD_takes_44 rfl (lv_at hl 0 rfl) ?_
        refine lv_iload_n hx hb dMD_takes_45 rfl (lv_at hl 1 rfl) ?_
        refine vp_callSi (W.runV (As := [.int (nI k)]) (rest := [.int (nI (mm 3 k)), .int y]) ⟨hx, hb, hml, hown, hz⟩ (f_MD_down l dC dI h0 b0 b1 b2 b3 b4 b5 b6 b7 b8 b9 b10 b11 b12 b13 b14 b15 b16 b17 kb0 kb1 kb2 kb3 kb4 kb5 kb6 kb7 kb8 kb9 kb10 kb11 mg n _ rn ro sp gp fx _ k (hm) (by omega) (hg) (hG) (hE) (by omega)) (cwV 1 hz (z_gV wd_716 wd_718 wd_17 wd_37 wd_719) rfl rfl rfl (by decide +kernel) ⟨Nat.le_of_ble_eq_true rfl, Nat.le_of_ble_eq_true rfl⟩) (zr_preV hK (hP.sub [0, 1, 2, 3, 4, 5, 6, 7, 8, 9, 10, 11, 12] rfl) (va_recv (q0 := 0) hK hP (q := (RMD, TMD, 26)) rfl rfl) [0, 1, 2, 3, 4, 5, 6, 7, 8, 9, 10, 11] rfl z_true (fun _ _ _ => trivial)) rfl rfl hl.1 rfl (lv_room (Nat.le_of_ble_eq_true rfl)) dMD_takes_46 ⟨Nat.le_of_ble_eq_true rfl, Nat.le_of_ble_eq_true rfl⟩) (fun r23 h_r23 => ?_)
        have h_r23 : r23 = nI (zDn mm n k) := h_r23
        subst h_r23
        refine lv_iadd hx hb dMD_takes_49 ?_
        refine lv_topi (fun x24 e25 => ?_)
        have e25 : x24 = nI ((mm 3 k) + (zDn mm n k)) := e25.trans (nI_add _ _)
        subst e25
        have t26 := hm 3 k
        have t27 := zDn_le hm n k
        have t28 := nI_toInt (n := (mm 3 k) + (zDn mm n k)) (by omega)
        refine lv_icmp_ge (tgt := 57) hx hb dMD_takes_50 rfl (fun h29 => ?_) (fun h29 => ?_)
        · have h29 := z_le h29
          refine lv_iconst (v := nI 0) hx hb dMD_takes_57 (by decide) ?_
          subst hQ
          exact zp_zret hx hb hr hlocks (Or.inl rfl) (z_tk0 (by omega)) dMD_takes_58
        · have h29 := z_nle h29
          refine lv_iconst (v := nI 1) hx hb dMD_takes_53 (by decide) ?_
          refine lv_goto (tgt := 58) hx hb dMD_takes_54 rfl ?_
          subst hQ
          exact zp_zret hx hb hr hlocks (Or.inr rfl) (z_tk1 (by omega)) dMD_takes_58

set_option maxHeartbeats 4000000 in
set_option maxRecDepth 100000 in
theorem f_MD_isCell (l : Launch) (dC : Nat → ClassId) (dI : Nat → Nat → Nat) (h0 : Nat) (b0 : Nat) (b1 : Nat) (b2 : Nat) (b3 : Nat) (b4 : Nat) (b5 : Nat) (b6 : Nat) (b7 : Nat) (b8 : Nat) (b9 : Nat) (b10 : Nat) (b11 : Nat) (b12 : Nat) (b13 : Nat) (b14 : Nat) (b15 : Nat) (b16 : Nat) (b17 : Nat) (kb0 : ClassId) (kb1 : ClassId) (kb2 : ClassId) (kb3 : ClassId) (kb4 : ClassId) (kb5 : ClassId) (kb6 : ClassId) (kb7 : ClassId) (kb8 : ClassId) (kb9 : ClassId) (kb10 : ClassId) (kb11 : ClassId) (mg : Nat) (n : Nat) (rg : Nat) (rn : Nat) (ro : Nat) (sp : Nat) (gp : Nat) (fx : Nat) (mm : Nat → Nat → Nat) (k : Int32) (hm : ∀ a k, mm a k ≤ 1000) (hn : n ≤ 40) (hg : 1 ≤ mg ∧ mg ≤ 8 ∧ rg ≤ 8 ∧ rn ≤ 1000 ∧ ro ≤ 1000) (hG : ∀ k, k < n → mm 6 k < 8) (hE : ∀ k, k < n → mm 3 k ≤ zEn mm (mm 6 k) n) : zp_M l yMD_isCell wMD_isCell ({ frames := 0, cells := 0, slots := 0, locals := 0 }) [.ref h0, .int k] (dC, dI) vwCl [(h0, .inr (6, [.int (nI mg), .ref b0, .ref b1, .int (nI n), .ref b2, .ref b3, .ref b4, .ref b5, .ref b6, .ref b7, .ref b8, .ref b9, .ref b10, .ref b11, .int (nI rg - nI 1), .int (nI rn), .int (nI ro), .int (nI sp), .int (nI gp), .int (nI fx), .ref b12, .ref b13, .ref b14, .ref b15, .ref b16, .ref b17])), (b0, .inl (kb0, 8, .inl (fun j => nI (mm 0 j)))), (b1, .inl (kb1, 8, .inl (fun j => nI (mm 1 j)))), (b2, .inl (kb2, 40, .inl (fun j => nI (mm 2 j)))), (b3, .inl (kb3, 40, .inl (fun j => nI (mm 3 j)))), (b4, .inl (kb4, 40, .inl (fun j => nI (mm 4 j)))), (b5, .inl (kb5, 40, .inl (fun j => nI (mm 5 j)))), (b6, .inl (kb6, 40, .inl (fun j => nI (mm 6 j)))), (b7, .inl (kb7, 40, .inl (fun j => nI (mm 7 j)))), (b8, .inl (kb8, 40, .inl (fun j => nI (mm 8 j)))), (b9, .inl (kb9, 40, .inl (fun j => nI (mm 9 j)))), (b10, .inl (kb10, 40, .inl (fun j => nI (mm 10 j)))), (b11, .inl (kb11, 40, .inl (fun j => nI (mm 11 j))))] [(kb0, .int), (kb1, .int), (kb2, .int), (kb3, .int), (kb4, .int), (kb5, .int), (kb6, .int), (kb7, .int), (kb8, .int), (kb9, .int), (kb10, .int), (kb11, .int)] (fun _ => True) (fun r => z_yn r (0 ≤ k.toInt ∧ k.toInt < n)) := by
  refine zp_head (cc := cMD_isCell) (maxL := 2) (ret := (some .boolean)) (by decide +kernel) rfl (Nat.le_of_ble_eq_true rfl) ?_
  intro p e s m below meth c ls F hP hK hX hl
  obtain ⟨hx, hb, hml, hr, hlocks, hown, hts⟩ := F
  have hown : s.vm.findClass "SpannedCellsModel" = some m.cls := hown
  have hz : ∀ w9 ∈ zT, w9.before [.ref h0, .int k].toArray s = true := fun w9 h => hts w9 (List.mem_cons_of_mem _ h)
  have hl : lv_has ls 2 [(0, .ref h0), (1, .int k)] := hl
  refine z_q (fun Q hQ => ?_)
  refine lv_iload_n hx hb dMD_isCell_0 rfl (lv_at hl 1 rfl) ?_
  have t1 : (0 : Int32).toInt = 0 := by decide
  refine lv_if_lt (tgt := 16) hx hb dMD_isCell_1 rfl (fun h2 => ?_) (fun h2 => ?_)
  · have h2 := z_lt h2
    refine lv_iconst (v := nI 0) hx hb dMD_isCell_16 (by decide) ?_
    subst hQ
    exact zp_zret hx hb hr hlocks (Or.inl rfl) (z_y0 (by omega)) dMD_isCell_17
  · have h2 := z_nlt h2
    refine lv_iload_n hx hb dMD_isCell_4 rfl (lv_at hl 1 rfl) ?_
    refine lv_aload_n hx hb dMD_isCell_5 rfl (lv_at hl 0 rfl) ?_
    refine va_get (D := (dC, dI)) (ci := 6) (v := .int (nI n)) (C := RMD) (T := TMD) (N := 26) hx hb hz in_MD hown hK hP 0 rfl rfl 3 (by decide) (hz _ wd_587) (fun _ h9 => h9) rfl dMD_isCell_6 ?_
    have t3 := nI_toInt (n := n) (by omega)
    refine lv_icmp_ge (tgt := 16) hx hb dMD_isCell_9 rfl (fun h4 => ?_) (fun h4 => ?_)
    · have h4 := z_le h4
      refine lv_iconst (v := nI 0) hx hb dMD_isCell_16 (by decide) ?_
      subst hQ
      exact zp_zret hx hb hr hlocks (Or.inl rfl) (z_y0 (by omega)) dMD_isCell_17
    · have h4 := z_nle h4
      refine lv_iconst (v := nI 1) hx hb dMD_isCell_12 (by decide) ?_
      refine lv_goto (tgt := 17) hx hb dMD_isCell_13 rfl ?_
      subst hQ
      exact zp_zret hx hb hr hlocks (Or.inr rfl) (z_y1 (by omega)) dMD_isCell_17
end
section
set_option maxHeartbeats 4000000 in
set_option maxRecDepth 100000 in
theorem f_MD_isTaken (l : Launch) (dC : Nat → ClassId) (dI : Nat → Nat → Nat) (h0 : Nat) (b0 : Nat) (b1 : Nat) (b2 : Nat) (b3 : Nat) (b4 : Nat) (b5 : Nat) (b6 : Nat) (b7 : Nat) (b8 : Nat) (b9 : Nat) (b10 : Nat) (b11 : Nat) (b12 : Nat) (b13 : Nat) (b14 : Nat) (b15 : Nat) (b16 : Nat) (b17 : Nat) (kb0 : ClassId) (kb1 : ClassId) (kb2 : ClassId) (kb3 : ClassId) (kb4 : ClassId) (kb5 : ClassId) (kb6 : ClassId) (kb7 : ClassId) (kb8 : ClassId) (kb9 : ClassId) (kb10 : ClassId) (kb11 : ClassId) (mg : Nat) (n : Nat) (rg : Nat) (rn : Nat) (ro : Nat) (sp : Nat) (gp : Nat) (fx : Nat) (mm : Nat → Nat → Nat) (x : Nat) (hm : ∀ a k, mm a k ≤ 1000) (hn : n ≤ 40) (hg : 1 ≤ mg ∧ mg ≤ 8 ∧ rg ≤ 8 ∧ rn ≤ 1000 ∧ ro ≤ 1000) (hG : ∀ k, k < n → mm 6 k < 8) (hE : ∀ k, k < n → mm 3 k ≤ zEn mm (mm 6 k) n) (hx0 : x < 2147483648) : zp_M l yMD_isTaken wMD_isTaken ({ frames := 0, cells := 0, slots := 0, locals := 0 }) [.ref h0, .int (nI x)] (dC, dI) vwCl [(h0, .inr (6, [.int (nI mg), .ref b0, .ref b1, .int (nI n), .ref b2, .ref b3, .ref b4, .ref b5, .ref b6, .ref b7, .ref b8, .ref b9, .ref b10, .ref b11, .int (nI rg - nI 1), .int (nI rn), .int (nI ro), .int (nI sp), .int (nI gp), .int (nI fx), .ref b12, .ref b13, .ref b14, .ref b15, .ref b16, .ref b17])), (b0, .inl (kb0, 8, .inl (fun j => nI (mm 0 j)))), (b1, .inl (kb1, 8, .inl (fun j => nI (mm 1 j)))), (b2, .inl (kb2, 40, .inl (fun j => nI (mm 2 j)))), (b3, .inl (kb3, 40, .inl (fun j => nI (mm 3 j)))), (b4, .inl (kb4, 40, .inl (fun j => nI (mm 4 j)))), (b5, .inl (kb5, 40, .inl (fun j => nI (mm 5 j)))), (b6, .inl (kb6, 40, .inl (fun j => nI (mm 6 j)))), (b7, .inl (kb7, 40, .inl (fun j => nI (mm 7 j)))), (b8, .inl (kb8, 40, .inl (fun j => nI (mm 8 j)))), (b9, .inl (kb9, 40, .inl (fun j => nI (mm 9 j)))), (b10, .inl (kb10, 40, .inl (fun j => nI (mm 10 j)))), (b11, .inl (kb11, 40, .inl (fun j => nI (mm 11 j))))] [(kb0, .int), (kb1, .int), (kb2, .int), (kb3, .int), (kb4, .int), (kb5, .int), (kb6, .int), (kb7, .int), (kb8, .int), (kb9, .int), (kb10, .int), (kb11, .int)] (fun _ => True) (fun r => z_yn r (∃ k, k < n ∧ zIt mm rg rn x k)) := by
  refine zp_head (cc := cMD_isTaken) (maxL := 5) (ret := (some .boolean)) (by decide +kernel) rfl (Nat.le_of_ble_eq_true rfl) ?_
  intro p e s m below meth c ls F hP hK hX hl
  obtain ⟨hx, hb, hml, hr, hlocks, hown, hts⟩ := F
  have hown : s.vm.findClass "SpannedCellsModel" = some m.cls := hown
  have hz : ∀ w9 ∈ zT, w9.before [.ref h0, .int (nI x)].toArray s = true := fun w9 h => hts w9 (List.mem_cons_of_mem _ h)
  have hl : lv_has ls 5 [(0, .ref h0), (1, .int (nI x))] := hl
  refine z_q (fun Q hQ => ?_)
  refine lv_iconst (v := nI 0) hx hb dMD_isTaken_0 (by decide) ?_
  refine lv_istore_n hx hb dMD_isTaken_1 rfl hl (Nat.le_of_ble_eq_true rfl) rfl (fun ls hl => ?_)
  have hl : lv_has ls 5 [(2, .int (nI 0)), (0, .ref h0), (1, .int (nI x))] := hl
  refine lv_iconst (v := nI 0) hx hb dMD_isTaken_2 (by decide) ?_
  refine lv_istore_n hx hb dMD_isTaken_3 rfl hl (Nat.le_of_ble_eq_true rfl) rfl (fun ls hl => ?_)
  have hl : lv_has ls 5 [(3, .int (nI 0)), (2, .int (nI 0)), (0, .ref h0), (1, .int (nI x))] := hl
  refine zl_up (σ := (Int32)) n (fun i tk ls => lv_has ls 5 [(3, .int (nI i)), (2, .int tk), (1, .int (nI x)), (0, .ref h0)] ∧ (z_yn tk (∃ k, k < i ∧ zIt mm rg rn x k))) ?_ ?_ 0 (Nat.zero_le _) (nI 0) ls ⟨lv_sub hl [0, 1, 3, 2] rfl, z_y0 (fun ⟨k, hk, _⟩ => absurd hk (Nat.not_lt_zero _))⟩
  · intro x9 ls hI
    obtain ⟨tk, rfl⟩ : ∃ z, z = x9 := ⟨_, rfl⟩
    obtain ⟨hl, hxI⟩ := hI
    have hl : lv_has ls 5 [(3, .int (nI n)), (2, .int tk), (1, .int (nI x)), (0, .ref h0)] := hl
    refine lv_iload_n hx hb dMD_isTaken_4 rfl (lv_at hl 0 rfl) ?_
    refine lv_aload_n hx hb dMD_isTaken_5 rfl (lv_at hl 3 rfl) ?_
    refine va_get (D := (dC, dI)) (ci := 6) (v := .int (nI n)) (C := RMD) (T := TMD) (N := 26) hx hb hz in_MD hown hK hP 0 rfl rfl 3 (by decide) (hz _ wd_587) (fun _ h9 => h9) rfl dMD_isTaken_6 ?_
    have t1 := nI_toInt (n := n) (by omega)
    have t2 := nI_toInt (n := n) (by omega)
    refine lv_icmp_ge (tgt := 109) hx hb dMD_isTaken_9 rfl (fun _ => ?_) (fun h => by have h := z_nle h; omega)
    refine lv_iload_n hx hb dMD_isTaken_109 rfl (lv_at hl 1 rfl) ?_
    subst hQ
    exact zp_zret hx hb hr hlocks (z_y01 hxI) (hxI) dMD_isTaken_110
  · intro i hi ih
    intro x9 ls hI
    obtain ⟨tk, rfl⟩ : ∃ z, z = x9 := ⟨_, rfl⟩
    obtain ⟨hl, hxI⟩ := hI
    have hl : lv_has ls 5 [(3, .int (nI i)), (2, .int tk), (1, .int (nI x)), (0, .ref h0)] := hl
    refine lv_iload_n hx hb dMD_isTaken_4 rfl (lv_at hl 0 rfl) ?_
    refine lv_aload_n hx hb dMD_isTaken_5 rfl (lv_at hl 3 rfl) ?_
    refine va_get (D := (dC, dI)) (ci := 6) (v := .int (nI n)) (C := RMD) (T := TMD) (N := 26) hx hb hz in_MD hown hK hP 0 rfl rfl 3 (by decide) (hz _ wd_587) (fun _ h9 => h9) rfl dMD_isTaken_6 ?_
    have t3 := nI_toInt (n := i) (by omega)
    have t4 := nI_toInt (n := n) (by omega)
    refine lv_icmp_ge (tgt := 109) hx hb dMD_isTaken_9 rfl (fun h => by have h := z_le h; omega) (fun _ => ?_)
    refine z_join (fun v1 : Int32 => z_yn v1 (mm 6 i + 1 = rg ∧ (mm 5 i = 0 ∨ rn < mm 3 i + mm 5 i))) (fun v1 => W p l e ({ frames := 0, cells := 0, slots := 0, locals := 0 }) s m [.ref h0, .int (nI x)].toArray below meth c s.heap [] 0 0 Q (F0 m 59 ls (.int v1 :: []))) (fun v1 hv1 => ?_) (fun J59 => ?_)
    · refine lv_istore hx hb dMD_isTaken_59 hl (Nat.le_of_ble_eq_true rfl) rfl (fun ls hl => ?_)
      have hl : lv_has ls 5 [(4, .int v1), (3, .int (nI i)), (2, .int tk), (1, .int (nI x)), (0, .ref h0)] := hl
      refine z_join (fun v2 : Int32 => z_yn v2 (∃ k, k < i + 1 ∧ zIt mm rg rn x k)) (fun v2 => W p l e ({ frames := 0, cells := 0, slots := 0, locals := 0 }) s m [.ref h0, .int (nI x)].toArray below meth c s.heap [] 0 0 Q (F0 m 102 ls (.int v2 :: []))) (fun v2 hv2 => ?_) (fun J102 => ?_)
      · refine lv_istore_n hx hb dMD_isTaken_102 rfl hl (Nat.le_of_ble_eq_true rfl) rfl (fun ls hl => ?_)
        have hl : lv_has ls 5 [(2, .int v2), (4, .int v1), (3, .int (nI i)), (1, .int (nI x)), (0, .ref h0)] := hl
        refine lv_iinc (k := 2) (v := nI (i + 1)) hx hb dMD_isTaken_103 hl rfl (by rw [show Int32.ofInt 1 = nI 1 from by decide]; exact nI_add _ _) (Nat.le_of_ble_eq_true rfl) rfl (fun ls hl => ?_)
        have hl : lv_has ls 5 [(3, .int (nI (i + 1))), (2, .int v2), (4, .int v1), (1, .int (nI x)), (0, .ref h0)] := hl
        refine lv_goto (tgt := 4) hx hb dMD_isTaken_106 rfl ?_
        exact ih v2 ls ⟨lv_sub hl [0, 1, 3, 4] rfl, hv2⟩
      · refine lv_iload_n hx hb dMD_isTaken_61 rfl (lv_at hl 2 rfl) ?_
        refine lv_if_ne (tgt := 97) hx hb dMD_isTaken_62 rfl (fun h_t => ?_) (fun h_t => ?_)
        · have h_t := z_yT hxI h_t
          refine lv_iconst (v := nI 1) hx hb dMD_isTaken_97 (by decide) ?_
          refine lv_goto (tgt := 102) hx hb dMD_isTaken_98 rfl ?_
          exact J102 _ (z_y1 (z_exL h_t))
        · have h_t := z_yF hxI h_t
          refine lv_iload hx hb dMD_isTaken_65 (lv_at hl 0 rfl) ?_
          refine lv_if_eq (tgt := 101) hx hb dMD_isTaken_67 rfl (fun h_w => ?_) (fun h_w => ?_)
          · have h_w := z_yF hv1 h_w
            refine lv_iconst (v := nI 0) hx hb dMD_isTaken_101 (by decide) ?_
            exact J102 _ (z_y0 (z_ex0 h_t (fun p9 => h_w p9.1)))
          · have h_w := z_yT hv1 h_w
            refine lv_iload_n hx hb dMD_isTaken_70 rfl (lv_at hl 3 rfl) ?_
            refine lv_aload_n hx hb dMD_isTaken_71 rfl (lv_at hl 4 rfl) ?_
            refine va_get (D := (dC, dI)) (ci := 6) (v := .ref b2) (C := RMD) (T := TMD) (N := 26) hx hb hz in_MD hown hK hP 0 rfl rfl 4 (by decide) (hz _ wd_588) (fun _ h9 => h9) rfl dMD_isTaken_72 ?_
            refine lv_iload_n hx hb dMD_isTaken_75 rfl (lv_at hl 1 rfl) ?_
            refine va_iald hx hb hK hP 3 2 rfl rfl (vp_in_nI (by omega) (by omega)) dMD_isTaken_76 ?_
            refine lv_topi (fun x7 e8 => ?_)
            have e8 : x7 = nI (mm 2 i) := e8.trans (by show nI (mm 2 (nI i).toNatClampNeg) = _; rw [nI_clamp (by omega)])
            subst e8
            have t9 := nI_toInt (n := x) (by omega)
            have t10 := hm 2 i
            have t11 := nI_toInt (n := mm 2 i) (by omega)
            refine lv_icmp_lt (tgt := 101) hx hb dMD_isTaken_77 rfl (fun h12 => ?_) (fun h12 => ?_)
            · have h12 := z_lt h12
              refine lv_iconst (v := nI 0) hx hb dMD_isTaken_101 (by decide) ?_
              exact J102 _ (z_y0 (z_ex0 h_t (fun p9 => by have p9 := p9.2; omega)))
            · have h12 := z_nlt h12
              refine lv_iload_n hx hb dMD_isTaken_80 rfl (lv_at hl 3 rfl) ?_
              refine lv_aload_n hx hb dMD_isTaken_81 rfl (lv_at hl 4 rfl) ?_
              refine va_get (D := (dC, dI)) (ci := 6) (v := .ref b2) (C := RMD) (T := TMD) (N := 26) hx hb hz in_MD hown hK hP 0 rfl rfl 4 (by decide) (hz _ wd_588) (fun _ h9 => h9) rfl dMD_isTaken_82 ?_
              refine lv_iload_n hx hb dMD_isTaken_85 rfl (lv_at hl 1 rfl) ?_
              refine va_iald hx hb hK hP 3 2 rfl rfl (vp_in_nI (by omega) (by omega)) dMD_isTaken_86 ?_
              refine lv_topi (fun x13 e14 => ?_)
              have e14 : x13 = nI (mm 2 i) := e14.trans (by show nI (mm 2 (nI i).toNatClampNeg) = _; rw [nI_clamp (by omega)])
              subst e14
              refine lv_aload_n hx hb dMD_isTaken_87 rfl (lv_at hl 4 rfl) ?_
              refine va_get (D := (dC, dI)) (ci := 6) (v := .ref b4) (C := RMD) (T := TMD) (N := 26) hx hb hz in_MD hown hK hP 0 rfl rfl 6 (by decide) (hz _ wd_590) (fun _ h9 => h9) rfl dMD_isTaken_88 ?_
              refine lv_iload_n hx hb dMD_isTaken_91 rfl (lv_at hl 1 rfl) ?_
              refine va_iald hx hb hK hP 5 4 rfl rfl (vp_in_nI (by omega) (by omega)) dMD_isTaken_92 ?_
              refine lv_topi (fun x15 e16 => ?_)
              have e16 : x15 = nI (mm 4 i) := e16.trans (by show nI (mm 4 (nI i).toNatClampNeg) = _; rw [nI_clamp (by omega)])
              subst e16
              refine lv_iadd hx hb dMD_isTaken_93 ?_
              refine lv_topi (fun x17 e18 => ?_)
              have e18 : x17 = nI ((mm 2 i) + (mm 4 i)) := e18.trans (nI_add _ _)
              subst e18
              have t19 := nI_toInt (n := x) (by omega)
              have t20 := hm 2 i
              have t21 := hm 4 i
              have t22 := nI_toInt (n := (mm 2 i) + (mm 4 i)) (by omega)
              refine lv_icmp_ge (tgt := 101) hx hb dMD_isTaken_94 rfl (fun h23 => ?_) (fun h23 => ?_)
              · have h23 := z_le h23
                refine lv_iconst (v := nI 0) hx hb dMD_isTaken_101 (by decide) ?_
                exact J102 _ (z_y0 (z_ex0 h_t (fun p9 => by have p9 := p9.2; omega)))
              · have h23 := z_nle h23
                refine lv_iconst (v := nI 1) hx hb dMD_isTaken_97 (by decide) ?_
                refine lv_goto (tgt := 102) hx hb dMD_isTaken_98 rfl ?_
                exact J102 _ (z_y1 (z_exR (show _ ∧ _ from ⟨h_w, by omega⟩)))
    · refine lv_aload_n hx hb dMD_isTaken_12 rfl (lv_at hl 3 rfl) ?_
      refine va_get (D := (dC, dI)) (ci := 6) (v := .ref b6) (C := RMD) (T := TMD) (N := 26) hx hb hz in_MD hown hK hP 0 rfl rfl 8 (by decide) (hz _ wd_592) (fun _ h9 => h9) rfl dMD_isTaken_13 ?_
      refine lv_iload_n hx hb dMD_isTaken_16 rfl (lv_at hl 0 rfl) ?_
      refine va_iald hx hb hK hP 7 6 rfl rfl (vp_in_nI (by omega) (by omega)) dMD_isTaken_17 ?_
      refine lv_topi (fun x24 e25 => ?_)
      have e25 : x24 = nI (mm 6 i) := e25.trans (by show nI (mm 6 (nI i).toNatClampNeg) = _; rw [nI_clamp (by omega)])
      subst e25
      refine lv_aload_n hx hb dMD_isTaken_18 rfl (lv_at hl 3 rfl) ?_
      refine va_get (D := (dC, dI)) (ci := 6) (v := .int (nI rg - nI 1)) (C := RMD) (T := TMD) (N := 26) hx hb hz in_MD hown hK hP 0 rfl rfl 14 (by decide) (hz _ wd_598) (fun _ h9 => h9) rfl dMD_isTaken_19 ?_
      have t26 := hm 6 i
      have t27 := nI_toInt (n := mm 6 i) (by omega)
      have t28 := pk_sub_toInt (a := rg) (b := 1) (by omega) (by omega)
      refine lv_icmp_ne (tgt := 58) hx hb dMD_isTaken_22 rfl (fun h29 => ?_) (fun h29 => ?_)
      · have h29 := z_ne h29
        refine lv_iconst (v := nI 0) hx hb dMD_isTaken_58 (by decide) ?_
        exact J59 _ (z_y0 (by omega))
      · have h29 := z_eq h29
        refine lv_aload_n hx hb dMD_isTaken_25 rfl (lv_at hl 3 rfl) ?_
        refine va_get (D := (dC, dI)) (ci := 6) (v := .ref b5) (C := RMD) (T := TMD) (N := 26) hx hb hz in_MD hown hK hP 0 rfl rfl 7 (by decide) (hz _ wd_591) (fun _ h9 => h9) rfl dMD_isTaken_26 ?_
        refine lv_iload_n hx hb dMD_isTaken_29 rfl (lv_at hl 0 rfl) ?_
        refine va_iald hx hb hK hP 6 5 rfl rfl (vp_in_nI (by omega) (by omega)) dMD_isTaken_30 ?_
        refine lv_topi (fun x30 e31 => ?_)
        have e31 : x30 = nI (mm 5 i) := e31.trans (by show nI (mm 5 (nI i).toNatClampNeg) = _; rw [nI_clamp (by omega)])
        subst e31
        have t32 := hm 5 i
        have t33 := nI_toInt (n := mm 5 i) (by omega)
        have t34 : (0 : Int32).toInt = 0 := by decide
        refine lv_if_eq (tgt := 54) hx hb dMD_isTaken_31 rfl (fun h35 => ?_) (fun h35 => ?_)
        · have h35 := z_eq h35
          refine lv_iconst (v := nI 1) hx hb dMD_isTaken_54 (by decide) ?_
          refine lv_goto (tgt := 59) hx hb dMD_isTaken_55 rfl ?_
          exact J59 _ (z_y1 (by omega))
        · have h35 := z_ne h35
          refine lv_aload_n hx hb dMD_isTaken_34 rfl (lv_at hl 3 rfl) ?_
          refine va_get (D := (dC, dI)) (ci := 6) (v := .int (nI rn)) (C := RMD) (T := TMD) (N := 26) hx hb hz in_MD hown hK hP 0 rfl rfl 15 (by decide) (hz _ wd_599) (fun _ h9 => h9) rfl dMD_isTaken_35 ?_
          refine lv_aload_n hx hb dMD_isTaken_38 rfl (lv_at hl 3 rfl) ?_
          refine va_get (D := (dC, dI)) (ci := 6) (v := .ref b3) (C := RMD) (T := TMD) (N := 26) hx hb hz in_MD hown hK hP 0 rfl rfl 5 (by decide) (hz _ wd_589) (fun _ h9 => h9) rfl dMD_isTaken_39 ?_
          refine lv_iload_n hx hb dMD_isTaken_42 rfl (lv_at hl 0 rfl) ?_
          refine va_iald hx hb hK hP 4 3 rfl rfl (vp_in_nI (by omega) (by omega)) dMD_isTaken_43 ?_
          refine lv_topi (fun x36 e37 => ?_)
          have e37 : x36 = nI (mm 3 i) := e37.trans (by show nI (mm 3 (nI i).toNatClampNeg) = _; rw [nI_clamp (by omega)])
          subst e37
          refine lv_aload_n hx hb dMD_isTaken_44 rfl (lv_at hl 3 rfl) ?_
          refine va_get (D := (dC, dI)) (ci := 6) (v := .ref b5) (C := RMD) (T := TMD) (N := 26) hx hb hz in_MD hown hK hP 0 rfl rfl 7 (by decide) (hz _ wd_591) (fun _ h9 => h9) rfl dMD_isTaken_45 ?_
          refine lv_iload_n hx hb dMD_isTaken_48 rfl (lv_at hl 0 rfl) ?_
          refine va_iald hx hb hK hP 6 5 rfl rfl (vp_in_nI (by omega) (by omega)) dMD_isTaken_49 ?_
          refine lv_topi (fun x38 e39 => ?_)
          have e39 : x38 = nI (mm 5 i) := e39.trans (by show nI (mm 5 (nI i).toNatClampNeg) = _; rw [nI_clamp (by omega)])
          subst e39
          refine lv_iadd hx hb dMD_isTaken_50 ?_
          refine lv_topi (fun x40 e41 => ?_)
          have e41 : x40 = nI ((mm 3 i) + (mm 5 i)) := e41.trans (nI_add _ _)
          subst e41
          have t42 := nI_toInt (n := rn) (by omega)
          have t43 := hm 3 i
          have t44 := hm 5 i
          have t45 := nI_toInt (n := (mm 3 i) + (mm 5 i)) (by omega)
          refine lv_icmp_ge (tgt := 58) hx hb dMD_isTaken_51 rfl (fun h46 => ?_) (fun h46 => ?_)
          · have h46 := z_le h46
            refine lv_iconst (v := nI 0) hx hb dMD_isTaken_58 (by decide) ?_
            exact J59 _ (z_y0 (by omega))
          · have h46 := z_nle h46
            refine lv_iconst (v := nI 1) hx hb dMD_isTaken_54 (by decide) ?_
            refine lv_goto (tgt := 59) hx hb dMD_isTaken_55 rfl ?_
            exact J59 _ (z_y1 (by omega))

set_option maxHeartbeats 4000000 in
set_option maxRecDepth 100000 in
theorem f_MD_howMany (l : Launch) (dC : Nat → ClassId) (dI : Nat → Nat → Nat) (h0 : Nat) (b0 : Nat) (b1 : Nat) (b2 : Nat) (b3 : Nat) (b4 : Nat) (b5 : Nat) (b6 : Nat) (b7 : Nat) (b8 : Nat) (b9 : Nat) (b10 : Nat) (b11 : Nat) (b12 : Nat) (b13 : Nat) (b14 : Nat) (b15 : Nat) (b16 : Nat) (b17 : Nat) (kb0 : ClassId) (kb1 : ClassId) (kb2 : ClassId) (kb3 : ClassId) (kb4 : ClassId) (kb5 : ClassId) (kb6 : ClassId) (kb7 : ClassId) (kb8 : ClassId) (kb9 : ClassId) (kb10 : ClassId) (kb11 : ClassId) (mg : Nat) (n : Nat) (rg : Nat) (rn : Nat) (ro : Nat) (sp : Nat) (gp : Nat) (fx : Nat) (mm : Nat → Nat → Nat) (x : Int32) (y : Int32) (hm : ∀ a k, mm a k ≤ 1000) (hn : n ≤ 40) (hg : 1 ≤ mg ∧ mg ≤ 8 ∧ rg ≤ 8 ∧ rn ≤ 1000 ∧ ro ≤ 1000) (hG : ∀ k, k < n → mm 6 k < 8) (hE : ∀ k, k < n → mm 3 k ≤ zEn mm (mm 6 k) n) : zp_M l yMD_howMany wMD_howMany ({ frames := 3, cells := 0, slots := 0, locals := 68 }) [.ref h0, .int x, .int y] (dC, dI) vwCl [(h0, .inr (6, [.int (nI mg), .ref b0, .ref b1, .int (nI n), .ref b2, .ref b3, .ref b4, .ref b5, .ref b6, .ref b7, .ref b8, .ref b9, .ref b10, .ref b11, .int (nI rg - nI 1), .int (nI rn), .int (nI ro), .int (nI sp), .int (nI gp), .int (nI fx), .ref b12, .ref b13, .ref b14, .ref b15, .ref b16, .ref b17])), (b0, .inl (kb0, 8, .inl (fun j => nI (mm 0 j)))), (b1, .inl (kb1, 8, .inl (fun j => nI (mm 1 j)))), (b2, .inl (kb2, 40, .inl (fun j => nI (mm 2 j)))), (b3, .inl (kb3, 40, .inl (fun j => nI (mm 3 j)))), (b4, .inl (kb4, 40, .inl (fun j => nI (mm 4 j)))), (b5, .inl (kb5, 40, .inl (fun j => nI (mm 5 j)))), (b6, .inl (kb6, 40, .inl (fun j => nI (mm 6 j)))), (b7, .inl (kb7, 40, .inl (fun j => nI (mm 7 j)))), (b8, .inl (kb8, 40, .inl (fun j => nI (mm 8 j)))), (b9, .inl (kb9, 40, .inl (fun j => nI (mm 9 j)))), (b10, .inl (kb10, 40, .inl (fun j => nI (mm 10 j)))), (b11, .inl (kb11, 40, .inl (fun j => nI (mm 11 j))))] [(kb0, .int), (kb1, .int), (kb2, .int), (kb3, .int), (kb4, .int), (kb5, .int), (kb6, .int), (kb7, .int), (kb8, .int), (kb9, .int), (kb10, .int), (kb11, .int)] (fun _ => True) (fun r => r = nI (zCn (zMt mm n x y) n)) := by
  refine zp_head (cc := cMD_howMany) (maxL := 5) (ret := (some .int)) (by decide +kernel) rfl (Nat.le_of_ble_eq_true rfl) ?_
  intro p e s m below meth c ls F hP hK hX hl
  obtain ⟨hx, hb, hml, hr, hlocks, hown, hts⟩ := F
  have hown : s.vm.findClass "SpannedCellsModel" = some m.cls := hown
  have hz : ∀ w9 ∈ zT, w9.before [.ref h0, .int x, .int y].toArray s = true := fun w9 h => hts w9 (List.mem_cons_of_mem _ h)
  have hl : lv_has ls 5 [(0, .ref h0), (1, .int x), (2, .int y)] := hl
  refine z_q (fun Q hQ => ?_)
  refine lv_iconst (v := nI 0) hx hb dMD_howMany_0 (by decide) ?_
  refine lv_istore_n hx hb dMD_howMany_1 rfl hl (Nat.le_of_ble_eq_true rfl) rfl (fun ls hl => ?_)
  have hl : lv_has ls 5 [(3, .int (nI 0)), (0, .ref h0), (1, .int x), (2, .int y)] := hl
  refine lv_iconst (v := nI 0) hx hb dMD_howMany_2 (by decide) ?_
  refine lv_istore hx hb dMD_howMany_3 hl (Nat.le_of_ble_eq_true rfl) rfl (fun ls hl => ?_)
  have hl : lv_has ls 5 [(4, .int (nI 0)), (3, .int (nI 0)), (0, .ref h0), (1, .int x), (2, .int y)] := hl
  refine zl_up (σ := Unit) n (fun i x9 ls => lv_has ls 5 [(4, .int (nI i)), (3, .int (nI (zCn (zMt mm n x y) i))), (2, .int y), (1, .int x), (0, .ref h0)]) ?_ ?_ 0 (Nat.zero_le _) () ls (lv_sub hl [0, 1, 4, 3, 2] rfl)
  · intro x9 ls hI
    have hl := hI
    have hl : lv_has ls 5 [(4, .int (nI n)), (3, .int (nI (zCn (zMt mm n x y) n))), (2, .int y), (1, .int x), (0, .ref h0)] := hl
    refine lv_iload hx hb dMD_howMany_5 (lv_at hl 0 rfl) ?_
    refine lv_aload_n hx hb dMD_howMany_7 rfl (lv_at hl 4 rfl) ?_
    refine va_get (D := (dC, dI)) (ci := 6) (v := .int (nI n)) (C := RMD) (T := TMD) (N := 26) hx hb hz in_MD hown hK hP 0 rfl rfl 3 (by decide) (hz _ wd_587) (fun _ h9 => h9) rfl dMD_howMany_8 ?_
    have t1 := nI_toInt (n := n) (by omega)
    have t2 := nI_toInt (n := n) (by omega)
    refine lv_icmp_ge (tgt := 39) hx hb dMD_howMany_11 rfl (fun _ => ?_) (fun h => by have h := z_nle h; omega)
    refine lv_iload_n hx hb dMD_howMany_39 rfl (lv_at hl 1 rfl) ?_
    subst hQ
    exact zp_iret hx hb hr hlocks (rfl) dMD_howMany_40
  · intro i hi ih
    intro x9 ls hI
    have hl := hI
    have hl : lv_has ls 5 [(4, .int (nI i)), (3, .int (nI (zCn (zMt mm n x y) i))), (2, .int y), (1, .int x), (0, .ref h0)] := hl
    refine lv_iload hx hb dMD_howMany_5 (lv_at hl 0 rfl) ?_
    refine lv_aload_n hx hb dMD_howMany_7 rfl (lv_at hl 4 rfl) ?_
    refine va_get (D := (dC, dI)) (ci := 6) (v := .int (nI n)) (C := RMD) (T := TMD) (N := 26) hx hb hz in_MD hown hK hP 0 rfl rfl 3 (by decide) (hz _ wd_587) (fun _ h9 => h9) rfl dMD_howMany_8 ?_
    have t3 := nI_toInt (n := i) (by omega)
    have t4 := nI_toInt (n := n) (by omega)
    refine lv_icmp_ge (tgt := 39) hx hb dMD_howMany_11 rfl (fun h => by have h := z_le h; omega) (fun _ => ?_)
    refine z_join (fun v1 : Int32 => v1 = nI (zCn (zMt mm n x y) (i + 1))) (fun v1 => W p l e ({ frames := 3, cells := 0, slots := 0, locals := 68 }) s m [.ref h0, .int x, .int y].toArray below meth c s.heap [] 0 0 Q (F0 m 32 ls (.int v1 :: []))) (fun v1 hv1 => ?_) (fun J32 => ?_)
    · subst hv1
      refine lv_istore_n hx hb dMD_howMany_32 rfl hl (Nat.le_of_ble_eq_true rfl) rfl (fun ls hl => ?_)
      have hl : lv_has ls 5 [(3, .int (nI (zCn (zMt mm n x y) (i + 1)))), (4, .int (nI i)), (2, .int y), (1, .int x), (0, .ref h0)] := hl
      refine lv_iinc (k := 1) (v := nI (i + 1)) hx hb dMD_howMany_33 hl rfl (by rw [show Int32.ofInt 1 = nI 1 from by decide]; exact nI_add _ _) (Nat.le_of_ble_eq_true rfl) rfl (fun ls hl => ?_)
      have hl : lv_has ls 5 [(4, .int (nI (i + 1))), (3, .int (nI (zCn (zMt mm n x y) (i + 1)))), (2, .int y), (1, .int x), (0, .ref h0)] := hl
      refine lv_goto (tgt := 5) hx hb dMD_howMany_36 rfl ?_
      exact ih () ls (lv_sub hl [0, 1, 2, 3, 4] rfl)
    · refine lv_aload_n hx hb dMD_howMany_14 rfl (lv_at hl 4 rfl) ?_
      refine lv_iload hx hb dMD_howMany_15 (lv_at hl 0 rfl) ?_
      refine lv_iload_n hx hb dMD_howMany_17 rfl (lv_at hl 3 rfl) ?_
      refine lv_iload_n hx hb dMD_howMany_18 rfl (lv_at hl 2 rfl) ?_
      refine vp_callSi (W.runV (As := [.int (nI i), .int x, .int y]) (rest := []) ⟨hx, hb, hml, hown, hz⟩ (f_MD_takes l dC dI h0 b0 b1 b2 b3 b4 b5 b6 b7 b8 b9 b10 b11 b12 b13 b14 b15 b16 b17 kb0 kb1 kb2 kb3 kb4 kb5 kb6 kb7 kb8 kb9 kb10 kb11 mg n _ rn ro sp gp fx _ i x y (hm) (by omega) (hg) (hG) (hE) (by omega)) (cwV 3 hz (z_gV wd_712 wd_714 wd_16 wd_37 wd_715) rfl rfl rfl (by decide +kernel) ⟨Nat.le_of_ble_eq_true rfl, Nat.le_of_ble_eq_true rfl⟩) (zr_preV hK (hP.sub [0, 1, 2, 3, 4, 5, 6, 7, 8, 9, 10, 11, 12] rfl) (va_recv (q0 := 0) hK hP (q := (RMD, TMD, 26)) rfl rfl) [0, 1, 2, 3, 4, 5, 6, 7, 8, 9, 10, 11] rfl z_true (fun _ _ _ => trivial)) rfl rfl hl.1 rfl (lv_room (Nat.le_of_ble_eq_true rfl)) dMD_howMany_19 ⟨Nat.le_of_ble_eq_true rfl, Nat.le_of_ble_eq_true rfl⟩) (fun rb h_rb => ?_)
      have h_rb : z_yn rb (zTk (mm 2 i) (mm 4 i) (mm 3 i) (zDn mm n i) x y) := h_rb
      refine lv_if_eq (tgt := 31) hx hb dMD_howMany_22 rfl (fun h_b => ?_) (fun h_b => ?_)
      · have h_b := z_yF h_rb h_b
        refine lv_iload_n hx hb dMD_howMany_31 rfl (lv_at hl 1 rfl) ?_
        exact J32 _ (by rw [zCn_F h_b])
      · have h_b := z_yT h_rb h_b
        refine lv_iload_n hx hb dMD_howMany_25 rfl (lv_at hl 1 rfl) ?_
        refine lv_iconst (v := nI 1) hx hb dMD_howMany_26 (by decide) ?_
        refine lv_iadd hx hb dMD_howMany_27 ?_
        refine lv_topi (fun x6 e7 => ?_)
        have e7 : x6 = nI ((zCn (zMt mm n x y) i) + 1) := e7.trans (nI_add _ _)
        subst e7
        refine lv_goto (tgt := 32) hx hb dMD_howMany_28 rfl ?_
        exact J32 _ (by rw [zCn_T h_b])

set_option maxHeartbeats 4000000 in
set_option maxRecDepth 100000 in
theorem f_MD_slot (l : Launch) (dC : Nat → ClassId) (dI : Nat → Nat → Nat) (h0 : Nat) (b0 : Nat) (b1 : Nat) (b2 : Nat) (b3 : Nat) (b4 : Nat) (b5 : Nat) (b6 : Nat) (b7 : Nat) (b8 : Nat) (b9 : Nat) (b10 : Nat) (b11 : Nat) (b12 : Nat) (b13 : Nat) (b14 : Nat) (b15 : Nat) (b16 : Nat) (b17 : Nat) (kb0 : ClassId) (kb1 : ClassId) (kb2 : ClassId) (kb3 : ClassId) (kb4 : ClassId) (kb5 : ClassId) (kb6 : ClassId) (kb7 : ClassId) (kb8 : ClassId) (kb9 : ClassId) (kb10 : ClassId) (kb11 : ClassId) (mg : Nat) (n : Nat) (rg : Nat) (rn : Nat) (ro : Nat) (sp : Nat) (gp : Nat) (fx : Nat) (mm : Nat → Nat → Nat) (x : Int32) (y : Int32) (hm : ∀ a k, mm a k ≤ 1000) (hn : n ≤ 40) (hg : 1 ≤ mg ∧ mg ≤ 8 ∧ rg ≤ 8 ∧ rn ≤ 1000 ∧ ro ≤ 1000) (hG : ∀ k, k < n → mm 6 k < 8) (hE : ∀ k, k < n → mm 3 k ≤ zEn mm (mm 6 k) n) : zp_M l yMD_slot wMD_slot ({ frames := 3, cells := 0, slots := 0, locals := 68 }) [.ref h0, .int x, .int y] (dC, dI) vwCl [(h0, .inr (6, [.int (nI mg), .ref b0, .ref b1, .int (nI n), .ref b2, .ref b3, .ref b4, .ref b5, .ref b6, .ref b7, .ref b8, .ref b9, .ref b10, .ref b11, .int (nI rg - nI 1), .int (nI rn), .int (nI ro), .int (nI sp), .int (nI gp), .int (nI fx), .ref b12, .ref b13, .ref b14, .ref b15, .ref b16, .ref b17])), (b0, .inl (kb0, 8, .inl (fun j => nI (mm 0 j)))), (b1, .inl (kb1, 8, .inl (fun j => nI (mm 1 j)))), (b2, .inl (kb2, 40, .inl (fun j => nI (mm 2 j)))), (b3, .inl (kb3, 40, .inl (fun j => nI (mm 3 j)))), (b4, .inl (kb4, 40, .inl (fun j => nI (mm 4 j)))), (b5, .inl (kb5, 40, .inl (fun j => nI (mm 5 j)))), (b6, .inl (kb6, 40, .inl (fun j => nI (mm 6 j)))), (b7, .inl (kb7, 40, .inl (fun j => nI (mm 7 j)))), (b8, .inl (kb8, 40, .inl (fun j => nI (mm 8 j)))), (b9, .inl (kb9, 40, .inl (fun j => nI (mm 9 j)))), (b10, .inl (kb10, 40, .inl (fun j => nI (mm 10 j)))), (b11, .inl (kb11, 40, .inl (fun j => nI (mm 11 j))))] [(kb0, .int), (kb1, .int), (kb2, .int), (kb3, .int), (kb4, .int), (kb5, .int), (kb6, .int), (kb7, .int), (kb8, .int), (kb9, .int), (kb10, .int), (kb11, .int)] (fun _ => True) (fun r => zFst n (zMt mm n x y) r) := by
  refine zp_head (cc := cMD_slot) (maxL := 5) (ret := (some .int)) (by decide +kernel) rfl (Nat.le_of_ble_eq_true rfl) ?_
  intro p e s m below meth c ls F hP hK hX hl
  obtain ⟨hx, hb, hml, hr, hlocks, hown, hts⟩ := F
  have hown : s.vm.findClass "SpannedCellsModel" = some m.cls := hown
  have hz : ∀ w9 ∈ zT, w9.before [.ref h0, .int x, .int y].toArray s = true := fun w9 h => hts w9 (List.mem_cons_of_mem _ h)
  have hl : lv_has ls 5 [(0, .ref h0), (1, .int x), (2, .int y)] := hl
  refine z_q (fun Q hQ => ?_)
  refine lv_iconst (v := (-1)) hx hb dMD_slot_0 (by decide) ?_
  refine lv_istore_n hx hb dMD_slot_1 rfl hl (Nat.le_of_ble_eq_true rfl) rfl (fun ls hl => ?_)
  have hl : lv_has ls 5 [(3, .int (-1)), (0, .ref h0), (1, .int x), (2, .int y)] := hl
  refine lv_aload_n hx hb dMD_slot_2 rfl (lv_at hl 1 rfl) ?_
  refine va_get (D := (dC, dI)) (ci := 6) (v := .int (nI n)) (C := RMD) (T := TMD) (N := 26) hx hb hz in_MD hown hK hP 0 rfl rfl 3 (by decide) (hz _ wd_587) (fun _ h9 => h9) rfl dMD_slot_3 ?_
  refine lv_iconst (v := nI 1) hx hb dMD_slot_6 (by decide) ?_
  refine lv_isub hx hb dMD_slot_7 ?_
  refine lv_istore hx hb dMD_slot_8 hl (Nat.le_of_ble_eq_true rfl) rfl (fun ls hl => ?_)
  have hl : lv_has ls 5 [(4, .int ((nI n) - (nI 1))), (3, .int (-1)), (0, .ref h0), (1, .int x), (2, .int y)] := hl
  refine zl_up (σ := (Int32)) n (fun i fd ls => lv_has ls 5 [(4, .int (nI (n - i) - nI 1)), (3, .int fd), (2, .int y), (1, .int x), (0, .ref h0)] ∧ (zFf (n - i) n (zMt mm n x y) fd)) ?_ ?_ 0 (Nat.zero_le _) (-1) ls ⟨lv_sub hl [0, 1, 4, 3, 2] rfl, zFf_n (by omega)⟩
  · intro x9 ls hI
    obtain ⟨fd, rfl⟩ : ∃ z, z = x9 := ⟨_, rfl⟩
    obtain ⟨hl, hxI⟩ := hI
    have hl : lv_has ls 5 [(4, .int (nI (n - n) - nI 1)), (3, .int fd), (2, .int y), (1, .int x), (0, .ref h0)] := hl
    refine lv_iload hx hb dMD_slot_10 (lv_at hl 0 rfl) ?_
    have t1 := pk_sub_toInt (a := n - n) (b := 1) (by omega) (by omega)
    have t2 : (0 : Int32).toInt = 0 := by decide
    refine lv_if_lt (tgt := 39) hx hb dMD_slot_12 rfl (fun _ => ?_) (fun h => by have h := z_nlt h; omega)
    refine lv_iload_n hx hb dMD_slot_39 rfl (lv_at hl 1 rfl) ?_
    subst hQ
    exact zp_iret hx hb hr hlocks (zFf_0 (by rw [Nat.sub_self] at hxI; exact hxI)) dMD_slot_40
  · intro i hi ih
    intro x9 ls hI
    obtain ⟨fd, rfl⟩ : ∃ z, z = x9 := ⟨_, rfl⟩
    obtain ⟨hl, hxI⟩ := hI
    have hl : lv_has ls 5 [(4, .int (nI (n - i) - nI 1)), (3, .int fd), (2, .int y), (1, .int x), (0, .ref h0)] := hl
    refine lv_iload hx hb dMD_slot_10 (lv_at hl 0 rfl) ?_
    have t3 := pk_sub_toInt (a := n - i) (b := 1) (by omega) (by omega)
    have t4 : (0 : Int32).toInt = 0 := by decide
    refine lv_if_lt (tgt := 39) hx hb dMD_slot_12 rfl (fun h => by have h := z_lt h; omega) (fun _ => ?_)
    refine z_join (fun v1 : Int32 => zFf (n - (i + 1)) n (zMt mm n x y) v1) (fun v1 => W p l e ({ frames := 3, cells := 0, slots := 0, locals := 68 }) s m [.ref h0, .int x, .int y].toArray below meth c s.heap [] 0 0 Q (F0 m 32 ls (.int v1 :: []))) (fun v1 hv1 => ?_) (fun J32 => ?_)
    · refine lv_istore_n hx hb dMD_slot_32 rfl hl (Nat.le_of_ble_eq_true rfl) rfl (fun ls hl => ?_)
      have hl : lv_has ls 5 [(3, .int v1), (4, .int (nI (n - i) - nI 1)), (2, .int y), (1, .int x), (0, .ref h0)] := hl
      refine lv_iinc (k := 1) (v := nI (n - (i + 1)) - nI 1) hx hb dMD_slot_33 hl rfl (by rw [pk_sub (a := n - i) (b := 1) (by omega), show n - i - 1 = n - (i + 1) by omega, Int32.sub_eq_add_neg]; rfl) (Nat.le_of_ble_eq_true rfl) rfl (fun ls hl => ?_)
      have hl : lv_has ls 5 [(4, .int (nI (n - (i + 1)) - nI 1)), (3, .int v1), (2, .int y), (1, .int x), (0, .ref h0)] := hl
      refine lv_goto (tgt := 10) hx hb dMD_slot_36 rfl ?_
      exact ih v1 ls ⟨lv_sub hl [0, 1, 2, 3, 4] rfl, hv1⟩
    · refine lv_aload_n hx hb dMD_slot_15 rfl (lv_at hl 4 rfl) ?_
      refine lv_iload hx hb dMD_slot_16 (lv_at hl 0 rfl) ?_
      refine lv_topi (fun x5 e6 => ?_)
      have e6 : x5 = nI (n - (i + 1)) := e6.trans (by rw [pk_sub (by omega)]; rfl)
      subst e6
      refine lv_iload_n hx hb dMD_slot_18 rfl (lv_at hl 3 rfl) ?_
      refine lv_iload_n hx hb dMD_slot_19 rfl (lv_at hl 2 rfl) ?_
      refine vp_callSi (W.runV (As := [.int (nI (n - (i + 1))), .int x, .int y]) (rest := []) ⟨hx, hb, hml, hown, hz⟩ (f_MD_takes l dC dI h0 b0 b1 b2 b3 b4 b5 b6 b7 b8 b9 b10 b11 b12 b13 b14 b15 b16 b17 kb0 kb1 kb2 kb3 kb4 kb5 kb6 kb7 kb8 kb9 kb10 kb11 mg n _ rn ro sp gp fx _ (n - (i + 1)) x y (hm) (by omega) (hg) (hG) (hE) (by omega)) (cwV 3 hz (z_gV wd_712 wd_714 wd_16 wd_37 wd_715) rfl rfl rfl (by decide +kernel) ⟨Nat.le_of_ble_eq_true rfl, Nat.le_of_ble_eq_true rfl⟩) (zr_preV hK (hP.sub [0, 1, 2, 3, 4, 5, 6, 7, 8, 9, 10, 11, 12] rfl) (va_recv (q0 := 0) hK hP (q := (RMD, TMD, 26)) rfl rfl) [0, 1, 2, 3, 4, 5, 6, 7, 8, 9, 10, 11] rfl z_true (fun _ _ _ => trivial)) rfl rfl hl.1 rfl (lv_room (Nat.le_of_ble_eq_true rfl)) dMD_slot_20 ⟨Nat.le_of_ble_eq_true rfl, Nat.le_of_ble_eq_true rfl⟩) (fun rb h_rb => ?_)
      have h_rb : z_yn rb (zTk (mm 2 (n - (i + 1))) (mm 4 (n - (i + 1))) (mm 3 (n - (i + 1))) (zDn mm n (n - (i + 1))) x y) := h_rb
      refine lv_if_eq (tgt := 31) hx hb dMD_slot_23 rfl (fun h_b => ?_) (fun h_b => ?_)
      · have h_b := z_yF h_rb h_b
        refine lv_iload_n hx hb dMD_slot_31 rfl (lv_at hl 1 rfl) ?_
        exact J32 _ (zFf_F (by rw [show n - (i + 1) + 1 = n - i by omega]; exact hxI) h_b)
      · have h_b := z_yT h_rb h_b
        refine lv_iload hx hb dMD_slot_26 (lv_at hl 0 rfl) ?_
        refine lv_topi (fun x8 e9 => ?_)
        have e9 : x8 = nI (n - (i + 1)) := e9.trans (by rw [pk_sub (by omega)]; rfl)
        subst e9
        refine lv_goto (tgt := 32) hx hb dMD_slot_28 rfl ?_
        exact J32 _ (zFf_T (by omega) h_b)

set_option maxHeartbeats 4000000 in
set_option maxRecDepth 100000 in
theorem f_MD_overlaps (l : Launch) (dC : Nat → ClassId) (dI : Nat → Nat → Nat) (h0 : Nat) (b0 : Nat) (b1 : Nat) (b2 : Nat) (b3 : Nat) (b4 : Nat) (b5 : Nat) (b6 : Nat) (b7 : Nat) (b8 : Nat) (b9 : Nat) (b10 : Nat) (b11 : Nat) (b12 : Nat) (b13 : Nat) (b14 : Nat) (b15 : Nat) (b16 : Nat) (b17 : Nat) (kb0 : ClassId) (kb1 : ClassId) (kb2 : ClassId) (kb3 : ClassId) (kb4 : ClassId) (kb5 : ClassId) (kb6 : ClassId) (kb7 : ClassId) (kb8 : ClassId) (kb9 : ClassId) (kb10 : ClassId) (kb11 : ClassId) (mg : Nat) (n : Nat) (rg : Nat) (rn : Nat) (ro : Nat) (sp : Nat) (gp : Nat) (fx : Nat) (mm : Nat → Nat → Nat) (hm : ∀ a k, mm a k ≤ 1000) (hn : n ≤ 40) (hg : 1 ≤ mg ∧ mg ≤ 8 ∧ rg ≤ 8 ∧ rn ≤ 1000 ∧ ro ≤ 1000) (hG : ∀ k, k < n → mm 6 k < 8) (hE : ∀ k, k < n → mm 3 k ≤ zEn mm (mm 6 k) n) : zp_M l yMD_overlaps wMD_overlaps ({ frames := 4, cells := 0, slots := 0, locals := 92 }) [.ref h0] (dC, dI) vwCl [(h0, .inr (6, [.int (nI mg), .ref b0, .ref b1, .int (nI n), .ref b2, .ref b3, .ref b4, .ref b5, .ref b6, .ref b7, .ref b8, .ref b9, .ref b10, .ref b11, .int (nI rg - nI 1), .int (nI rn), .int (nI ro), .int (nI sp), .int (nI gp), .int (nI fx), .ref b12, .ref b13, .ref b14, .ref b15, .ref b16, .ref b17])), (b0, .inl (kb0, 8, .inl (fun j => nI (mm 0 j)))), (b1, .inl (kb1, 8, .inl (fun j => nI (mm 1 j)))), (b2, .inl (kb2, 40, .inl (fun j => nI (mm 2 j)))), (b3, .inl (kb3, 40, .inl (fun j => nI (mm 3 j)))), (b4, .inl (kb4, 40, .inl (fun j => nI (mm 4 j)))), (b5, .inl (kb5, 40, .inl (fun j => nI (mm 5 j)))), (b6, .inl (kb6, 40, .inl (fun j => nI (mm 6 j)))), (b7, .inl (kb7, 40, .inl (fun j => nI (mm 7 j)))), (b8, .inl (kb8, 40, .inl (fun j => nI (mm 8 j)))), (b9, .inl (kb9, 40, .inl (fun j => nI (mm 9 j)))), (b10, .inl (kb10, 40, .inl (fun j => nI (mm 10 j)))), (b11, .inl (kb11, 40, .inl (fun j => nI (mm 11 j))))] [(kb0, .int), (kb1, .int), (kb2, .int), (kb3, .int), (kb4, .int), (kb5, .int), (kb6, .int), (kb7, .int), (kb8, .int), (kb9, .int), (kb10, .int), (kb11, .int)] (fun _ => True) (fun r => r = nI (zOv (fun p => zHm mm n (p % 12) (p / 12)) 144)) := by
  refine zp_head (cc := cMD_overlaps) (maxL := 4) (ret := (some .int)) (by decide +kernel) rfl (Nat.le_of_ble_eq_true rfl) ?_
  intro p e s m below meth c ls F hP hK hX hl
  obtain ⟨hx, hb, hml, hr, hlocks, hown, hts⟩ := F
  have hown : s.vm.findClass "SpannedCellsModel" = some m.cls := hown
  have hz : ∀ w9 ∈ zT, w9.before [.ref h0].toArray s = true := fun w9 h => hts w9 (List.mem_cons_of_mem _ h)
  have hl : lv_has ls 4 [(0, .ref h0)] := hl
  refine z_q (fun Q hQ => ?_)
  refine lv_iconst (v := nI 0) hx hb dMD_overlaps_0 (by decide) ?_
  refine lv_istore_n hx hb dMD_overlaps_1 rfl hl (Nat.le_of_ble_eq_true rfl) rfl (fun ls hl => ?_)
  have hl : lv_has ls 4 [(1, .int (nI 0)), (0, .ref h0)] := hl
  refine lv_iconst (v := nI 0) hx hb dMD_overlaps_2 (by decide) ?_
  refine lv_istore_n hx hb dMD_overlaps_3 rfl hl (Nat.le_of_ble_eq_true rfl) rfl (fun ls hl => ?_)
  have hl : lv_has ls 4 [(2, .int (nI 0)), (1, .int (nI 0)), (0, .ref h0)] := hl
  refine zl_up (σ := Unit) 144 (fun i x9 ls => lv_has ls 4 [(2, .int (nI i)), (1, .int (nI (zOv (fun p => zHm mm n (p % 12) (p / 12)) i))), (0, .ref h0)]) ?_ ?_ 0 (by decide) () ls (lv_sub hl [0, 1, 2] rfl)
  · intro x9 ls hI
    have hl := hI
    have hl : lv_has ls 4 [(2, .int (nI 144)), (1, .int (nI (zOv (fun p => zHm mm n (p % 12) (p / 12)) 144))), (0, .ref h0)] := hl
    refine lv_iload_n hx hb dMD_overlaps_4 rfl (lv_at hl 0 rfl) ?_
    refine lv_sipush (v := nI 144) hx hb dMD_overlaps_5 (by decide) ?_
    refine lv_icmp_ge (tgt := 45) hx hb dMD_overlaps_8 rfl (fun _ => ?_) (fun h => absurd (by decide) h)
    refine lv_iload_n hx hb dMD_overlaps_45 rfl (lv_at hl 1 rfl) ?_
    subst hQ
    exact zp_iret hx hb hr hlocks (rfl) dMD_overlaps_46
  · intro i hi ih
    intro x9 ls hI
    have hl := hI
    have hl : lv_has ls 4 [(2, .int (nI i)), (1, .int (nI (zOv (fun p => zHm mm n (p % 12) (p / 12)) i))), (0, .ref h0)] := hl
    refine lv_iload_n hx hb dMD_overlaps_4 rfl (lv_at hl 0 rfl) ?_
    refine lv_sipush (v := nI 144) hx hb dMD_overlaps_5 (by decide) ?_
    have t1 := nI_toInt (n := i) (by omega)
    have t2 := nI_toInt (n := 144) (by omega)
    refine lv_icmp_ge (tgt := 45) hx hb dMD_overlaps_8 rfl (fun h => by have h := z_le h; omega) (fun _ => ?_)
    refine lv_aload_n hx hb dMD_overlaps_11 rfl (lv_at hl 2 rfl) ?_
    refine lv_iload_n hx hb dMD_overlaps_12 rfl (lv_at hl 0 rfl) ?_
    refine lv_bipush (v := nI 12) hx hb dMD_overlaps_13 (by decide) ?_
    refine lv_irem hx hb dMD_overlaps_15 (by decide) ?_
    refine lv_topi (fun x3 e4 => ?_)
    have e4 : x3 = nI (i % 12) := e4.trans (pk_rem (by omega) (by decide) (by decide))
    subst e4
    refine lv_iload_n hx hb dMD_overlaps_16 rfl (lv_at hl 0 rfl) ?_
    refine lv_bipush (v := nI 12) hx hb dMD_overlaps_17 (by decide) ?_
    refine lv_idiv hx hb dMD_overlaps_19 (by decide) ?_
    refine lv_topi (fun x5 e6 => ?_)
    have e6 : x5 = nI (i / 12) := e6.trans (pk_div (by omega) (by decide) (by decide))
    subst e6
    refine vp_callSi (W.runV (As := [.int (nI (i % 12)), .int (nI (i / 12))]) (rest := []) ⟨hx, hb, hml, hown, hz⟩ (f_MD_howMany l dC dI h0 b0 b1 b2 b3 b4 b5 b6 b7 b8 b9 b10 b11 b12 b13 b14 b15 b16 b17 kb0 kb1 kb2 kb3 kb4 kb5 kb6 kb7 kb8 kb9 kb10 kb11 mg n _ rn ro sp gp fx _ (nI (i % 12)) (nI (i / 12)) (hm) (by omega) (hg) (hG) (hE)) (cwV 2 hz (z_gV wd_724 wd_726 wd_18 wd_37 wd_727) rfl rfl rfl (by decide +kernel) ⟨Nat.le_of_ble_eq_true rfl, Nat.le_of_ble_eq_true rfl⟩) (zr_preV hK (hP.sub [0, 1, 2, 3, 4, 5, 6, 7, 8, 9, 10, 11, 12] rfl) (va_recv (q0 := 0) hK hP (q := (RMD, TMD, 26)) rfl rfl) [0, 1, 2, 3, 4, 5, 6, 7, 8, 9, 10, 11] rfl z_true (fun _ _ _ => trivial)) rfl rfl hl.1 rfl (lv_room (Nat.le_of_ble_eq_true rfl)) dMD_overlaps_20 ⟨Nat.le_of_ble_eq_true rfl, Nat.le_of_ble_eq_true rfl⟩) (fun r7 h_r7 => ?_)
    have h_r7 : r7 = nI (zHm mm n (i % 12) (i / 12)) := h_r7
    subst h_r7
    have t_h := zHm_le (m := mm) n (i % 12) (i / 12)
    refine lv_istore_n hx hb dMD_overlaps_23 rfl hl (Nat.le_of_ble_eq_true rfl) rfl (fun ls hl => ?_)
    have hl : lv_has ls 4 [(3, .int (nI (zHm mm n (i % 12) (i / 12)))), (2, .int (nI i)), (1, .int (nI (zOv (fun p => zHm mm n (p % 12) (p / 12)) i))), (0, .ref h0)] := hl
    refine z_join (fun v1 : Int32 => v1 = nI (zOv (fun p => zHm mm n (p % 12) (p / 12)) (i + 1))) (fun v1 => W p l e ({ frames := 4, cells := 0, slots := 0, locals := 92 }) s m [.ref h0].toArray below meth c s.heap [] 0 0 Q (F0 m 38 ls (.int v1 :: []))) (fun v1 hv1 => ?_) (fun J38 => ?_)
    · subst hv1
      refine lv_istore_n hx hb dMD_overlaps_38 rfl hl (Nat.le_of_ble_eq_true rfl) rfl (fun ls hl => ?_)
      have hl : lv_has ls 4 [(1, .int (nI (zOv (fun p => zHm mm n (p % 12) (p / 12)) (i + 1)))), (3, .int (nI (zHm mm n (i % 12) (i / 12)))), (2, .int (nI i)), (0, .ref h0)] := hl
      refine lv_iinc (k := 2) (v := nI (i + 1)) hx hb dMD_overlaps_39 hl rfl (by rw [show Int32.ofInt 1 = nI 1 from by decide]; exact nI_add _ _) (Nat.le_of_ble_eq_true rfl) rfl (fun ls hl => ?_)
      have hl : lv_has ls 4 [(2, .int (nI (i + 1))), (1, .int (nI (zOv (fun p => zHm mm n (p % 12) (p / 12)) (i + 1)))), (3, .int (nI (zHm mm n (i % 12) (i / 12)))), (0, .ref h0)] := hl
      refine lv_goto (tgt := 4) hx hb dMD_overlaps_42 rfl ?_
      exact ih () ls (lv_sub hl [0, 1, 3] rfl)
    · refine lv_iload_n hx hb dMD_overlaps_24 rfl (lv_at hl 0 rfl) ?_
      refine lv_iconst (v := nI 1) hx hb dMD_overlaps_25 (by decide) ?_
      have t8 := nI_toInt (n := zHm mm n (i % 12) (i / 12)) (by omega)
      have t9 := nI_toInt (n := 1) (by omega)
      refine lv_icmp_le (tgt := 37) hx hb dMD_overlaps_26 rfl (fun h10 => ?_) (fun h10 => ?_)
      · have h10 := z_le h10
        refine lv_iload_n hx hb dMD_overlaps_37 rfl (lv_at hl 2 rfl) ?_
        exact J38 _ (congrArg nI (show _ = zOv (fun p => zHm mm n (p % 12) (p / 12)) i + (zHm mm n (i % 12) (i / 12) - 1) by omega))
      · have h10 := z_nle h10
        refine lv_iload_n hx hb dMD_overlaps_29 rfl (lv_at hl 2 rfl) ?_
        refine lv_iload_n hx hb dMD_overlaps_30 rfl (lv_at hl 0 rfl) ?_
        refine lv_iadd hx hb dMD_overlaps_31 ?_
        refine lv_topi (fun x11 e12 => ?_)
        have e12 : x11 = nI ((zOv (fun p => zHm mm n (p % 12) (p / 12)) i) + (zHm mm n (i % 12) (i / 12))) := e12.trans (nI_add _ _)
        subst e12
        refine lv_iconst (v := nI 1) hx hb dMD_overlaps_32 (by decide) ?_
        refine lv_isub hx hb dMD_overlaps_33 ?_
        refine lv_topi (fun x13 e14 => ?_)
        have e14 : x13 = nI (zOv (fun p => zHm mm n (p % 12) (p / 12)) i + zHm mm n (i % 12) (i / 12) - 1) := e14.trans (pk_sub (by have := zHm_le (m := mm) n (i % 12) (i / 12); omega))
        subst e14
        refine lv_goto (tgt := 38) hx hb dMD_overlaps_34 rfl ?_
        exact J38 _ (congrArg nI (show _ = zOv (fun p => zHm mm n (p % 12) (p / 12)) i + (zHm mm n (i % 12) (i / 12) - 1) by omega))
end
section
set_option maxHeartbeats 4000000 in
set_option maxRecDepth 100000 in
theorem f_MD_empties (l : Launch) (dC : Nat → ClassId) (dI : Nat → Nat → Nat) (h0 : Nat) (b0 : Nat) (b1 : Nat) (b2 : Nat) (b3 : Nat) (b4 : Nat) (b5 : Nat) (b6 : Nat) (b7 : Nat) (b8 : Nat) (b9 : Nat) (b10 : Nat) (b11 : Nat) (b12 : Nat) (b13 : Nat) (b14 : Nat) (b15 : Nat) (b16 : Nat) (b17 : Nat) (kb0 : ClassId) (kb1 : ClassId) (kb2 : ClassId) (kb3 : ClassId) (kb4 : ClassId) (kb5 : ClassId) (kb6 : ClassId) (kb7 : ClassId) (kb8 : ClassId) (kb9 : ClassId) (kb10 : ClassId) (kb11 : ClassId) (mg : Nat) (n : Nat) (rg : Nat) (rn : Nat) (ro : Nat) (sp : Nat) (gp : Nat) (fx : Nat) (mm : Nat → Nat → Nat) (hm : ∀ a k, mm a k ≤ 1000) (hn : n ≤ 40) (hg : 1 ≤ mg ∧ mg ≤ 8 ∧ rg ≤ 8 ∧ rn ≤ 1000 ∧ ro ≤ 1000) (hG : ∀ k, k < n → mm 6 k < 8) (hE : ∀ k, k < n → mm 3 k ≤ zEn mm (mm 6 k) n) : zp_M l yMD_empties wMD_empties ({ frames := 2, cells := 0, slots := 0, locals := 44 }) [.ref h0] (dC, dI) vwCl [(h0, .inr (6, [.int (nI mg), .ref b0, .ref b1, .int (nI n), .ref b2, .ref b3, .ref b4, .ref b5, .ref b6, .ref b7, .ref b8, .ref b9, .ref b10, .ref b11, .int (nI rg - nI 1), .int (nI rn), .int (nI ro), .int (nI sp), .int (nI gp), .int (nI fx), .ref b12, .ref b13, .ref b14, .ref b15, .ref b16, .ref b17])), (b0, .inl (kb0, 8, .inl (fun j => nI (mm 0 j)))), (b1, .inl (kb1, 8, .inl (fun j => nI (mm 1 j)))), (b2, .inl (kb2, 40, .inl (fun j => nI (mm 2 j)))), (b3, .inl (kb3, 40, .inl (fun j => nI (mm 3 j)))), (b4, .inl (kb4, 40, .inl (fun j => nI (mm 4 j)))), (b5, .inl (kb5, 40, .inl (fun j => nI (mm 5 j)))), (b6, .inl (kb6, 40, .inl (fun j => nI (mm 6 j)))), (b7, .inl (kb7, 40, .inl (fun j => nI (mm 7 j)))), (b8, .inl (kb8, 40, .inl (fun j => nI (mm 8 j)))), (b9, .inl (kb9, 40, .inl (fun j => nI (mm 9 j)))), (b10, .inl (kb10, 40, .inl (fun j => nI (mm 10 j)))), (b11, .inl (kb11, 40, .inl (fun j => nI (mm 11 j))))] [(kb0, .int), (kb1, .int), (kb2, .int), (kb3, .int), (kb4, .int), (kb5, .int), (kb6, .int), (kb7, .int), (kb8, .int), (kb9, .int), (kb10, .int), (kb11, .int)] (fun _ => True) (fun r => r = nI (zCn (zPe (zCo mm n) n (mm 2)) 12 + 100 * zCn (zPe (zEn mm (mg - 1) n) n (mm 3)) 12)) := by
  refine zp_head (cc := cMD_empties) (maxL := 6) (ret := (some .int)) (by decide +kernel) rfl (Nat.le_of_ble_eq_true rfl) ?_
  intro p e s m below meth c ls F hP hK hX hl
  obtain ⟨hx, hb, hml, hr, hlocks, hown, hts⟩ := F
  have hown : s.vm.findClass "SpannedCellsModel" = some m.cls := hown
  have hz : ∀ w9 ∈ zT, w9.before [.ref h0].toArray s = true := fun w9 h => hts w9 (List.mem_cons_of_mem _ h)
  have hl : lv_has ls 6 [(0, .ref h0)] := hl
  refine z_q (fun Q hQ => ?_)
  refine lv_iconst (v := nI 0) hx hb dMD_empties_0 (by decide) ?_
  refine lv_istore_n hx hb dMD_empties_1 rfl hl (Nat.le_of_ble_eq_true rfl) rfl (fun ls hl => ?_)
  have hl : lv_has ls 6 [(1, .int (nI 0)), (0, .ref h0)] := hl
  refine lv_iconst (v := nI 0) hx hb dMD_empties_2 (by decide) ?_
  refine lv_istore_n hx hb dMD_empties_3 rfl hl (Nat.le_of_ble_eq_true rfl) rfl (fun ls hl => ?_)
  have hl : lv_has ls 6 [(2, .int (nI 0)), (1, .int (nI 0)), (0, .ref h0)] := hl
  refine zl_up (σ := Unit) 12 (fun i x9 ls => lv_has ls 6 [(2, .int (nI i)), (1, .int (nI (zCn (zPe (zCo mm n) n (mm 2)) i + 100 * zCn (zPe (zEn mm (mg - 1) n) n (mm 3)) i))), (0, .ref h0)]) ?_ ?_ 0 (by decide) () ls (lv_sub hl [0, 1, 2] rfl)
  · intro x9 ls hI
    have hl := hI
    have hl : lv_has ls 6 [(2, .int (nI 12)), (1, .int (nI (zCn (zPe (zCo mm n) n (mm 2)) 12 + 100 * zCn (zPe (zEn mm (mg - 1) n) n (mm 3)) 12))), (0, .ref h0)] := hl
    refine lv_iload_n hx hb dMD_empties_4 rfl (lv_at hl 0 rfl) ?_
    refine lv_bipush (v := nI 12) hx hb dMD_empties_5 (by decide) ?_
    refine lv_icmp_ge (tgt := 131) hx hb dMD_empties_7 rfl (fun _ => ?_) (fun h => absurd (by decide) h)
    refine lv_iload_n hx hb dMD_empties_131 rfl (lv_at hl 1 rfl) ?_
    subst hQ
    exact zp_iret hx hb hr hlocks (rfl) dMD_empties_132
  · intro i hi ih
    intro x9 ls hI
    have hl := hI
    have hl : lv_has ls 6 [(2, .int (nI i)), (1, .int (nI (zCn (zPe (zCo mm n) n (mm 2)) i + 100 * zCn (zPe (zEn mm (mg - 1) n) n (mm 3)) i))), (0, .ref h0)] := hl
    refine lv_iload_n hx hb dMD_empties_4 rfl (lv_at hl 0 rfl) ?_
    refine lv_bipush (v := nI 12) hx hb dMD_empties_5 (by decide) ?_
    have t1 := nI_toInt (n := i) (by omega)
    have t2 := nI_toInt (n := 12) (by omega)
    refine lv_icmp_ge (tgt := 131) hx hb dMD_empties_7 rfl (fun h => by have h := z_le h; omega) (fun _ => ?_)
    refine z_join (fun v1 : Int32 => z_yn v1 (i < zCo mm n)) (fun v1 => W p l e ({ frames := 2, cells := 0, slots := 0, locals := 44 }) s m [.ref h0].toArray below meth c s.heap [] 0 0 Q (F0 m 23 ls (.int v1 :: []))) (fun v1 hv1 => ?_) (fun J23 => ?_)
    · refine lv_istore_n hx hb dMD_empties_23 rfl hl (Nat.le_of_ble_eq_true rfl) rfl (fun ls hl => ?_)
      have hl : lv_has ls 6 [(3, .int v1), (2, .int (nI i)), (1, .int (nI (zCn (zPe (zCo mm n) n (mm 2)) i + 100 * zCn (zPe (zEn mm (mg - 1) n) n (mm 3)) i))), (0, .ref h0)] := hl
      refine z_join (fun v2 : Int32 => z_yn v2 (i < zEn mm (mg - 1) n)) (fun v2 => W p l e ({ frames := 2, cells := 0, slots := 0, locals := 44 }) s m [.ref h0].toArray below meth c s.heap [] 0 0 Q (F0 m 37 ls (.int v2 :: []))) (fun v2 hv2 => ?_) (fun J37 => ?_)
      · refine lv_istore hx hb dMD_empties_37 hl (Nat.le_of_ble_eq_true rfl) rfl (fun ls hl => ?_)
        have hl : lv_has ls 6 [(4, .int v2), (3, .int v1), (2, .int (nI i)), (1, .int (nI (zCn (zPe (zCo mm n) n (mm 2)) i + 100 * zCn (zPe (zEn mm (mg - 1) n) n (mm 3)) i))), (0, .ref h0)] := hl
        refine lv_iconst (v := nI 0) hx hb dMD_empties_39 (by decide) ?_
        refine lv_istore hx hb dMD_empties_40 hl (Nat.le_of_ble_eq_true rfl) rfl (fun ls hl => ?_)
        have hl : lv_has ls 6 [(5, .int (nI 0)), (4, .int v2), (3, .int v1), (2, .int (nI i)), (1, .int (nI (zCn (zPe (zCo mm n) n (mm 2)) i + 100 * zCn (zPe (zEn mm (mg - 1) n) n (mm 3)) i))), (0, .ref h0)] := hl
        refine zl_up (σ := (Int32) × (Int32)) n (fun j x9 ls => match x9 with | (lf, tp) => lv_has ls 6 [(5, .int (nI j)), (4, .int tp), (3, .int lf), (2, .int (nI i)), (1, .int (nI (zCn (zPe (zCo mm n) n (mm 2)) i + 100 * zCn (zPe (zEn mm (mg - 1) n) n (mm 3)) i))), (0, .ref h0)] ∧ (z_yn lf (zPe (zCo mm n) j (mm 2) i) ∧ z_yn tp (zPe (zEn mm (mg - 1) n) j (mm 3) i))) ?_ ?_ 0 (Nat.zero_le _) (v1, v2) ls ⟨lv_sub hl [0, 1, 2, 3, 4, 5] rfl, z_ynI hv1 zPe_0, z_ynI hv2 zPe_0⟩
        · intro x9 ls hI
          obtain ⟨lf, tp⟩ := x9
          obtain ⟨hl, hxl, hxt⟩ := hI
          have hl : lv_has ls 6 [(5, .int (nI n)), (4, .int tp), (3, .int lf), (2, .int (nI i)), (1, .int (nI (zCn (zPe (zCo mm n) n (mm 2)) i + 100 * zCn (zPe (zEn mm (mg - 1) n) n (mm 3)) i))), (0, .ref h0)] := hl
          refine lv_iload hx hb dMD_empties_42 (lv_at hl 0 rfl) ?_
          refine lv_aload_n hx hb dMD_empties_44 rfl (lv_at hl 5 rfl) ?_
          refine va_get (D := (dC, dI)) (ci := 6) (v := .int (nI n)) (C := RMD) (T := TMD) (N := 26) hx hb hz in_MD hown hK hP 0 rfl rfl 3 (by decide) (hz _ wd_587) (fun _ h9 => h9) rfl dMD_empties_45 ?_
          have t3 := nI_toInt (n := n) (by omega)
          have t4 := nI_toInt (n := n) (by omega)
          refine lv_icmp_ge (tgt := 101) hx hb dMD_empties_48 rfl (fun _ => ?_) (fun h => by have h := z_nle h; omega)
          refine lv_iload_n hx hb dMD_empties_101 rfl (lv_at hl 4 rfl) ?_
          refine lv_iload_n hx hb dMD_empties_102 rfl (lv_at hl 2 rfl) ?_
          refine lv_if_eq (tgt := 110) hx hb dMD_empties_103 rfl (fun h_l => ?_) (fun h_l => ?_)
          · have h_l := z_yF hxl h_l
            refine lv_iconst (v := nI 0) hx hb dMD_empties_110 (by decide) ?_
            refine lv_iadd hx hb dMD_empties_111 ?_
            refine lv_topi (fun x6 e7 => ?_)
            have e7 : x6 = nI (zCn (zPe (zCo mm n) n (mm 2)) (i + 1) + 100 * zCn (zPe (zEn mm (mg - 1) n) n (mm 3)) i) := e7.trans (by rw [zCn_F (P := zPe (zCo mm n) n (mm 2)) h_l]; exact nI_add _ 0)
            subst e7
            refine lv_iload hx hb dMD_empties_112 (lv_at hl 1 rfl) ?_
            refine lv_if_eq (tgt := 122) hx hb dMD_empties_114 rfl (fun h_r => ?_) (fun h_r => ?_)
            · have h_r := z_yF hxt h_r
              refine lv_iconst (v := nI 0) hx hb dMD_empties_122 (by decide) ?_
              refine lv_iadd hx hb dMD_empties_123 ?_
              refine lv_topi (fun x9 e10 => ?_)
              have e10 : x9 = nI (zCn (zPe (zCo mm n) n (mm 2)) (i + 1) + 100 * zCn (zPe (zEn mm (mg - 1) n) n (mm 3)) (i + 1)) := e10.trans (by rw [zCn_F (P := zPe (zEn mm (mg - 1) n) n (mm 3)) h_r]; exact nI_add _ 0)
              subst e10
              refine lv_istore_n hx hb dMD_empties_124 rfl hl (Nat.le_of_ble_eq_true rfl) rfl (fun ls hl => ?_)
              have hl : lv_has ls 6 [(1, .int (nI (zCn (zPe (zCo mm n) n (mm 2)) (i + 1) + 100 * zCn (zPe (zEn mm (mg - 1) n) n (mm 3)) (i + 1)))), (5, .int (nI n)), (4, .int tp), (3, .int lf), (2, .int (nI i)), (0, .ref h0)] := hl
              refine lv_iinc (k := 4) (v := nI (i + 1)) hx hb dMD_empties_125 hl rfl (by rw [show Int32.ofInt 1 = nI 1 from by decide]; exact nI_add _ _) (Nat.le_of_ble_eq_true rfl) rfl (fun ls hl => ?_)
              have hl : lv_has ls 6 [(2, .int (nI (i + 1))), (1, .int (nI (zCn (zPe (zCo mm n) n (mm 2)) (i + 1) + 100 * zCn (zPe (zEn mm (mg - 1) n) n (mm 3)) (i + 1)))), (5, .int (nI n)), (4, .int tp), (3, .int lf), (0, .ref h0)] := hl
              refine lv_goto (tgt := 4) hx hb dMD_empties_128 rfl ?_
              exact ih () ls (lv_sub hl [0, 1, 5] rfl)
            · have h_r := z_yT hxt h_r
              refine lv_bipush (v := nI 100) hx hb dMD_empties_117 (by decide) ?_
              refine lv_goto (tgt := 123) hx hb dMD_empties_119 rfl ?_
              refine lv_iadd hx hb dMD_empties_123 ?_
              refine lv_topi (fun x11 e12 => ?_)
              have e12 : x11 = nI (zCn (zPe (zCo mm n) n (mm 2)) (i + 1) + 100 * zCn (zPe (zEn mm (mg - 1) n) n (mm 3)) (i + 1)) := e12.trans (by rw [zCn_T (P := zPe (zEn mm (mg - 1) n) n (mm 3)) h_r]; exact (nI_add _ 100).trans (congrArg nI (by omega)))
              subst e12
              refine lv_istore_n hx hb dMD_empties_124 rfl hl (Nat.le_of_ble_eq_true rfl) rfl (fun ls hl => ?_)
              have hl : lv_has ls 6 [(1, .int (nI (zCn (zPe (zCo mm n) n (mm 2)) (i + 1) + 100 * zCn (zPe (zEn mm (mg - 1) n) n (mm 3)) (i + 1)))), (5, .int (nI n)), (4, .int tp), (3, .int lf), (2, .int (nI i)), (0, .ref h0)] := hl
              refine lv_iinc (k := 4) (v := nI (i + 1)) hx hb dMD_empties_125 hl rfl (by rw [show Int32.ofInt 1 = nI 1 from by decide]; exact nI_add _ _) (Nat.le_of_ble_eq_true rfl) rfl (fun ls hl => ?_)
              have hl : lv_has ls 6 [(2, .int (nI (i + 1))), (1, .int (nI (zCn (zPe (zCo mm n) n (mm 2)) (i + 1) + 100 * zCn (zPe (zEn mm (mg - 1) n) n (mm 3)) (i + 1)))), (5, .int (nI n)), (4, .int tp), (3, .int lf), (0, .ref h0)] := hl
              refine lv_goto (tgt := 4) hx hb dMD_empties_128 rfl ?_
              exact ih () ls (lv_sub hl [0, 1, 5] rfl)
          · have h_l := z_yT hxl h_l
            refine lv_iconst (v := nI 1) hx hb dMD_empties_106 (by decide) ?_
            refine lv_goto (tgt := 111) hx hb dMD_empties_107 rfl ?_
            refine lv_iadd hx hb dMD_empties_111 ?_
            refine lv_topi (fun x13 e14 => ?_)
            have e14 : x13 = nI (zCn (zPe (zCo mm n) n (mm 2)) (i + 1) + 100 * zCn (zPe (zEn mm (mg - 1) n) n (mm 3)) i) := e14.trans (by rw [zCn_T (P := zPe (zCo mm n) n (mm 2)) h_l]; exact (nI_add _ 1).trans (congrArg nI (by omega)))
            subst e14
            refine lv_iload hx hb dMD_empties_112 (lv_at hl 1 rfl) ?_
            refine lv_if_eq (tgt := 122) hx hb dMD_empties_114 rfl (fun h_r => ?_) (fun h_r => ?_)
            · have h_r := z_yF hxt h_r
              refine lv_iconst (v := nI 0) hx hb dMD_empties_122 (by decide) ?_
              refine lv_iadd hx hb dMD_empties_123 ?_
              refine lv_topi (fun x16 e17 => ?_)
              have e17 : x16 = nI (zCn (zPe (zCo mm n) n (mm 2)) (i + 1) + 100 * zCn (zPe (zEn mm (mg - 1) n) n (mm 3)) (i + 1)) := e17.trans (by rw [zCn_F (P := zPe (zEn mm (mg - 1) n) n (mm 3)) h_r]; exact nI_add _ 0)
              subst e17
              refine lv_istore_n hx hb dMD_empties_124 rfl hl (Nat.le_of_ble_eq_true rfl) rfl (fun ls hl => ?_)
              have hl : lv_has ls 6 [(1, .int (nI (zCn (zPe (zCo mm n) n (mm 2)) (i + 1) + 100 * zCn (zPe (zEn mm (mg - 1) n) n (mm 3)) (i + 1)))), (5, .int (nI n)), (4, .int tp), (3, .int lf), (2, .int (nI i)), (0, .ref h0)] := hl
              refine lv_iinc (k := 4) (v := nI (i + 1)) hx hb dMD_empties_125 hl rfl (by rw [show Int32.ofInt 1 = nI 1 from by decide]; exact nI_add _ _) (Nat.le_of_ble_eq_true rfl) rfl (fun ls hl => ?_)
              have hl : lv_has ls 6 [(2, .int (nI (i + 1))), (1, .int (nI (zCn (zPe (zCo mm n) n (mm 2)) (i + 1) + 100 * zCn (zPe (zEn mm (mg - 1) n) n (mm 3)) (i + 1)))), (5, .int (nI n)), (4, .int tp), (3, .int lf), (0, .ref h0)] := hl
              refine lv_goto (tgt := 4) hx hb dMD_empties_128 rfl ?_
              exact ih () ls (lv_sub hl [0, 1, 5] rfl)
            · have h_r := z_yT hxt h_r
              refine lv_bipush (v := nI 100) hx hb dMD_empties_117 (by decide) ?_
              refine lv_goto (tgt := 123) hx hb dMD_empties_119 rfl ?_
              refine lv_iadd hx hb dMD_empties_123 ?_
              refine lv_topi (fun x18 e19 => ?_)
              have e19 : x18 = nI (zCn (zPe (zCo mm n) n (mm 2)) (i + 1) + 100 * zCn (zPe (zEn mm (mg - 1) n) n (mm 3)) (i + 1)) := e19.trans (by rw [zCn_T (P := zPe (zEn mm (mg - 1) n) n (mm 3)) h_r]; exact (nI_add _ 100).trans (congrArg nI (by omega)))
              subst e19
              refine lv_istore_n hx hb dMD_empties_124 rfl hl (Nat.le_of_ble_eq_true rfl) rfl (fun ls hl => ?_)
              have hl : lv_has ls 6 [(1, .int (nI (zCn (zPe (zCo mm n) n (mm 2)) (i + 1) + 100 * zCn (zPe (zEn mm (mg - 1) n) n (mm 3)) (i + 1)))), (5, .int (nI n)), (4, .int tp), (3, .int lf), (2, .int (nI i)), (0, .ref h0)] := hl
              refine lv_iinc (k := 4) (v := nI (i + 1)) hx hb dMD_empties_125 hl rfl (by rw [show Int32.ofInt 1 = nI 1 from by decide]; exact nI_add _ _) (Nat.le_of_ble_eq_true rfl) rfl (fun ls hl => ?_)
              have hl : lv_has ls 6 [(2, .int (nI (i + 1))), (1, .int (nI (zCn (zPe (zCo mm n) n (mm 2)) (i + 1) + 100 * zCn (zPe (zEn mm (mg - 1) n) n (mm 3)) (i + 1)))), (5, .int (nI n)), (4, .int tp), (3, .int lf), (0, .ref h0)] := hl
              refine lv_goto (tgt := 4) hx hb dMD_empties_128 rfl ?_
              exact ih () ls (lv_sub hl [0, 1, 5] rfl)
        · intro j hj jh
          intro x9 ls hI
          obtain ⟨lf, tp⟩ := x9
          obtain ⟨hl, hxl, hxt⟩ := hI
          have hl : lv_has ls 6 [(5, .int (nI j)), (4, .int tp), (3, .int lf), (2, .int (nI i)), (1, .int (nI (zCn (zPe (zCo mm n) n (mm 2)) i + 100 * zCn (zPe (zEn mm (mg - 1) n) n (mm 3)) i))), (0, .ref h0)] := hl
          refine lv_iload hx hb dMD_empties_42 (lv_at hl 0 rfl) ?_
          refine lv_aload_n hx hb dMD_empties_44 rfl (lv_at hl 5 rfl) ?_
          refine va_get (D := (dC, dI)) (ci := 6) (v := .int (nI n)) (C := RMD) (T := TMD) (N := 26) hx hb hz in_MD hown hK hP 0 rfl rfl 3 (by decide) (hz _ wd_587) (fun _ h9 => h9) rfl dMD_empties_45 ?_
          have t20 := nI_toInt (n := j) (by omega)
          have t21 := nI_toInt (n := n) (by omega)
          refine lv_icmp_ge (tgt := 101) hx hb dMD_empties_48 rfl (fun h => by have h := z_le h; omega) (fun _ => ?_)
          refine z_join (fun v3 : Int32 => z_yn v3 (zPe (zCo mm n) (j + 1) (mm 2) i)) (fun v3 => W p l e ({ frames := 2, cells := 0, slots := 0, locals := 44 }) s m [.ref h0].toArray below meth c s.heap [] 0 0 Q (F0 m 71 ls (.int v3 :: []))) (fun v3 hv3 => ?_) (fun J71 => ?_)
          · refine lv_istore_n hx hb dMD_empties_71 rfl hl (Nat.le_of_ble_eq_true rfl) rfl (fun ls hl => ?_)
            have hl : lv_has ls 6 [(3, .int v3), (5, .int (nI j)), (4, .int tp), (2, .int (nI i)), (1, .int (nI (zCn (zPe (zCo mm n) n (mm 2)) i + 100 * zCn (zPe (zEn mm (mg - 1) n) n (mm 3)) i))), (0, .ref h0)] := hl
            refine z_join (fun v4 : Int32 => z_yn v4 (zPe (zEn mm (mg - 1) n) (j + 1) (mm 3) i)) (fun v4 => W p l e ({ frames := 2, cells := 0, slots := 0, locals := 44 }) s m [.ref h0].toArray below meth c s.heap [] 0 0 Q (F0 m 93 ls (.int v4 :: []))) (fun v4 hv4 => ?_) (fun J93 => ?_)
            · refine lv_istore hx hb dMD_empties_93 hl (Nat.le_of_ble_eq_true rfl) rfl (fun ls hl => ?_)
              have hl : lv_has ls 6 [(4, .int v4), (3, .int v3), (5, .int (nI j)), (2, .int (nI i)), (1, .int (nI (zCn (zPe (zCo mm n) n (mm 2)) i + 100 * zCn (zPe (zEn mm (mg - 1) n) n (mm 3)) i))), (0, .ref h0)] := hl
              refine lv_iinc (k := 2) (v := nI (j + 1)) hx hb dMD_empties_95 hl rfl (by rw [show Int32.ofInt 1 = nI 1 from by decide]; exact nI_add _ _) (Nat.le_of_ble_eq_true rfl) rfl (fun ls hl => ?_)
              have hl : lv_has ls 6 [(5, .int (nI (j + 1))), (4, .int v4), (3, .int v3), (2, .int (nI i)), (1, .int (nI (zCn (zPe (zCo mm n) n (mm 2)) i + 100 * zCn (zPe (zEn mm (mg - 1) n) n (mm 3)) i))), (0, .ref h0)] := hl
              refine lv_goto (tgt := 42) hx hb dMD_empties_98 rfl ?_
              exact jh (v3, v4) ls ⟨lv_sub hl [0, 1, 2, 3, 4, 5] rfl, hv3, hv4⟩
            · refine lv_iload hx hb dMD_empties_72 (lv_at hl 2 rfl) ?_
              refine lv_if_eq (tgt := 92) hx hb dMD_empties_74 rfl (fun h_r => ?_) (fun h_r => ?_)
              · have h_r := z_yF hxt h_r
                refine lv_iconst (v := nI 0) hx hb dMD_empties_92 (by decide) ?_
                exact J93 _ (z_y0 (zPe_F h_r))
              · have h_r := z_yT hxt h_r
                refine lv_aload_n hx hb dMD_empties_77 rfl (lv_at hl 5 rfl) ?_
                refine va_get (D := (dC, dI)) (ci := 6) (v := .ref b3) (C := RMD) (T := TMD) (N := 26) hx hb hz in_MD hown hK hP 0 rfl rfl 5 (by decide) (hz _ wd_589) (fun _ h9 => h9) rfl dMD_empties_78 ?_
                refine lv_iload hx hb dMD_empties_81 (lv_at hl 1 rfl) ?_
                refine va_iald hx hb hK hP 4 3 rfl rfl (vp_in_nI (by omega) (by omega)) dMD_empties_83 ?_
                refine lv_topi (fun x23 e24 => ?_)
                have e24 : x23 = nI (mm 3 j) := e24.trans (by show nI (mm 3 (nI j).toNatClampNeg) = _; rw [nI_clamp (by omega)])
                subst e24
                refine lv_iload_n hx hb dMD_empties_84 rfl (lv_at hl 3 rfl) ?_
                have t25 := hm 3 j
                have t26 := nI_toInt (n := mm 3 j) (by omega)
                have t27 := nI_toInt (n := i) (by omega)
                refine lv_icmp_eq (tgt := 92) hx hb dMD_empties_85 rfl (fun h28 => ?_) (fun h28 => ?_)
                · have h28 := z_eq h28
                  refine lv_iconst (v := nI 0) hx hb dMD_empties_92 (by decide) ?_
                  exact J93 _ (z_y0 (zPe_E (by omega)))
                · have h28 := z_ne h28
                  refine lv_iconst (v := nI 1) hx hb dMD_empties_88 (by decide) ?_
                  refine lv_goto (tgt := 93) hx hb dMD_empties_89 rfl ?_
                  exact J93 _ (z_y1 (zPe_1 h_r (by omega)))
          · refine lv_iload_n hx hb dMD_empties_51 rfl (lv_at hl 2 rfl) ?_
            refine lv_if_eq (tgt := 70) hx hb dMD_empties_52 rfl (fun h_l => ?_) (fun h_l => ?_)
            · have h_l := z_yF hxl h_l
              refine lv_iconst (v := nI 0) hx hb dMD_empties_70 (by decide) ?_
              exact J71 _ (z_y0 (zPe_F h_l))
            · have h_l := z_yT hxl h_l
              refine lv_aload_n hx hb dMD_empties_55 rfl (lv_at hl 5 rfl) ?_
              refine va_get (D := (dC, dI)) (ci := 6) (v := .ref b2) (C := RMD) (T := TMD) (N := 26) hx hb hz in_MD hown hK hP 0 rfl rfl 4 (by decide) (hz _ wd_588) (fun _ h9 => h9) rfl dMD_empties_56 ?_
              refine lv_iload hx hb dMD_empties_59 (lv_at hl 0 rfl) ?_
              refine va_iald hx hb hK hP 3 2 rfl rfl (vp_in_nI (by omega) (by omega)) dMD_empties_61 ?_
              refine lv_topi (fun x30 e31 => ?_)
              have e31 : x30 = nI (mm 2 j) := e31.trans (by show nI (mm 2 (nI j).toNatClampNeg) = _; rw [nI_clamp (by omega)])
              subst e31
              refine lv_iload_n hx hb dMD_empties_62 rfl (lv_at hl 3 rfl) ?_
              have t32 := hm 2 j
              have t33 := nI_toInt (n := mm 2 j) (by omega)
              have t34 := nI_toInt (n := i) (by omega)
              refine lv_icmp_eq (tgt := 70) hx hb dMD_empties_63 rfl (fun h35 => ?_) (fun h35 => ?_)
              · have h35 := z_eq h35
                refine lv_iconst (v := nI 0) hx hb dMD_empties_70 (by decide) ?_
                exact J71 _ (z_y0 (zPe_E (by omega)))
              · have h35 := z_ne h35
                refine lv_iconst (v := nI 1) hx hb dMD_empties_66 (by decide) ?_
                refine lv_goto (tgt := 71) hx hb dMD_empties_67 rfl ?_
                exact J71 _ (z_y1 (zPe_1 h_l (by omega)))
      · refine lv_iload_n hx hb dMD_empties_24 rfl (lv_at hl 1 rfl) ?_
        refine lv_aload_n hx hb dMD_empties_25 rfl (lv_at hl 3 rfl) ?_
        refine vp_callSi (W.runV (As := []) (rest := [.int (nI i)]) ⟨hx, hb, hml, hown, hz⟩ (f_MD_rows l dC dI h0 b0 b1 b2 b3 b4 b5 b6 b7 b8 b9 b10 b11 b12 b13 b14 b15 b16 b17 kb0 kb1 kb2 kb3 kb4 kb5 kb6 kb7 kb8 kb9 kb10 kb11 mg n _ rn ro sp gp fx _ (hm) (by omega) (hg) (hG) (hE)) (cwV 0 hz (z_gV wd_733 wd_705 wd_706 wd_37 wd_707) rfl rfl rfl (by decide +kernel) ⟨Nat.le_of_ble_eq_true rfl, Nat.le_of_ble_eq_true rfl⟩) (zr_preV hK (hP.sub [0, 1, 2, 3, 4, 5, 6, 7, 8, 9, 10, 11, 12] rfl) (va_recv (q0 := 0) hK hP (q := (RMD, TMD, 26)) rfl rfl) [0, 1, 2, 3, 4, 5, 6, 7, 8, 9, 10, 11] rfl z_true (fun _ _ _ => trivial)) rfl rfl hl.1 rfl (lv_room (Nat.le_of_ble_eq_true rfl)) dMD_empties_26 ⟨Nat.le_of_ble_eq_true rfl, Nat.le_of_ble_eq_true rfl⟩) (fun r36 h_r36 => ?_)
        have h_r36 : r36 = nI (zEn mm (mg - 1) n) := h_r36
        subst h_r36
        have t37 := nI_toInt (n := i) (by omega)
        have t38 := zEn_le hm (mg - 1) n
        have t39 := nI_toInt (n := zEn mm (mg - 1) n) (by omega)
        refine lv_icmp_ge (tgt := 36) hx hb dMD_empties_29 rfl (fun h40 => ?_) (fun h40 => ?_)
        · have h40 := z_le h40
          refine lv_iconst (v := nI 0) hx hb dMD_empties_36 (by decide) ?_
          exact J37 _ (z_y0 (by omega))
        · have h40 := z_nle h40
          refine lv_iconst (v := nI 1) hx hb dMD_empties_32 (by decide) ?_
          refine lv_goto (tgt := 37) hx hb dMD_empties_33 rfl ?_
          exact J37 _ (z_y1 (by omega))
    · refine lv_iload_n hx hb dMD_empties_10 rfl (lv_at hl 0 rfl) ?_
      refine lv_aload_n hx hb dMD_empties_11 rfl (lv_at hl 2 rfl) ?_
      refine vp_callSi (W.runV (As := []) (rest := [.int (nI i)]) ⟨hx, hb, hml, hown, hz⟩ (f_MD_columns l dC dI h0 b0 b1 b2 b3 b4 b5 b6 b7 b8 b9 b10 b11 b12 b13 b14 b15 b16 b17 kb0 kb1 kb2 kb3 kb4 kb5 kb6 kb7 kb8 kb9 kb10 kb11 mg n _ rn ro sp gp fx _ (hm) (by omega) (hg) (hG) (hE)) (cwV 0 hz (z_gV wd_732 wd_701 wd_702 wd_37 wd_703) rfl rfl rfl (by decide +kernel) ⟨Nat.le_of_ble_eq_true rfl, Nat.le_of_ble_eq_true rfl⟩) (zr_preV hK (hP.sub [0, 1, 2, 3, 4, 5, 6, 7, 8, 9, 10, 11, 12] rfl) (va_recv (q0 := 0) hK hP (q := (RMD, TMD, 26)) rfl rfl) [0, 1, 2, 3, 4, 5, 6, 7, 8, 9, 10, 11] rfl z_true (fun _ _ _ => trivial)) rfl rfl hl.1 rfl (lv_room (Nat.le_of_ble_eq_true rfl)) dMD_empties_12 ⟨Nat.le_of_ble_eq_true rfl, Nat.le_of_ble_eq_true rfl⟩) (fun r41 h_r41 => ?_)
      have h_r41 : r41 = nI (zCo mm n) := h_r41
      subst h_r41
      have t42 := nI_toInt (n := i) (by omega)
      have t43 := zCo_le hm n
      have t44 := nI_toInt (n := zCo mm n) (by omega)
      refine lv_icmp_ge (tgt := 22) hx hb dMD_empties_15 rfl (fun h45 => ?_) (fun h45 => ?_)
      · have h45 := z_le h45
        refine lv_iconst (v := nI 0) hx hb dMD_empties_22 (by decide) ?_
        exact J23 _ (z_y0 (by omega))
      · have h45 := z_nle h45
        refine lv_iconst (v := nI 1) hx hb dMD_empties_18 (by decide) ?_
        refine lv_goto (tgt := 23) hx hb dMD_empties_19 rfl ?_
        exact J23 _ (z_y1 (by omega))

set_option maxHeartbeats 4000000 in
set_option maxRecDepth 100000 in
theorem f_MD_span (l : Launch) (dC : Nat → ClassId) (dI : Nat → Nat → Nat) (h0 : Nat) (b0 : Nat) (b1 : Nat) (b2 : Nat) (b3 : Nat) (b4 : Nat) (b5 : Nat) (b6 : Nat) (b7 : Nat) (b8 : Nat) (b9 : Nat) (b10 : Nat) (b11 : Nat) (b12 : Nat) (b13 : Nat) (b14 : Nat) (b15 : Nat) (b16 : Nat) (b17 : Nat) (kb0 : ClassId) (kb1 : ClassId) (kb2 : ClassId) (kb3 : ClassId) (kb4 : ClassId) (kb5 : ClassId) (kb6 : ClassId) (kb7 : ClassId) (kb8 : ClassId) (kb9 : ClassId) (kb10 : ClassId) (kb11 : ClassId) (mg : Nat) (n : Nat) (rg : Nat) (rn : Nat) (ro : Nat) (sp : Nat) (gp : Nat) (fx : Nat) (mm : Nat → Nat → Nat) (k : Int32) (hm : ∀ a k, mm a k ≤ 1000) (hn : n ≤ 40) (hg : 1 ≤ mg ∧ mg ≤ 8 ∧ rg ≤ 8 ∧ rn ≤ 1000 ∧ ro ≤ 1000) (hG : ∀ k, k < n → mm 6 k < 8) (hE : ∀ k, k < n → mm 3 k ≤ zEn mm (mm 6 k) n) : zp_M l yMD_span wMD_span ({ frames := 2, cells := 0, slots := 0, locals := 45 }) [.ref h0, .int k] (dC, dI) vwCl [(h0, .inr (6, [.int (nI mg), .ref b0, .ref b1, .int (nI n), .ref b2, .ref b3, .ref b4, .ref b5, .ref b6, .ref b7, .ref b8, .ref b9, .ref b10, .ref b11, .int (nI rg - nI 1), .int (nI rn), .int (nI ro), .int (nI sp), .int (nI gp), .int (nI fx), .ref b12, .ref b13, .ref b14, .ref b15, .ref b16, .ref b17])), (b0, .inl (kb0, 8, .inl (fun j => nI (mm 0 j)))), (b1, .inl (kb1, 8, .inl (fun j => nI (mm 1 j)))), (b2, .inl (kb2, 40, .inl (fun j => nI (mm 2 j)))), (b3, .inl (kb3, 40, .inl (fun j => nI (mm 3 j)))), (b4, .inl (kb4, 40, .inl (fun j => nI (mm 4 j)))), (b5, .inl (kb5, 40, .inl (fun j => nI (mm 5 j)))), (b6, .inl (kb6, 40, .inl (fun j => nI (mm 6 j)))), (b7, .inl (kb7, 40, .inl (fun j => nI (mm 7 j)))), (b8, .inl (kb8, 40, .inl (fun j => nI (mm 8 j)))), (b9, .inl (kb9, 40, .inl (fun j => nI (mm 9 j)))), (b10, .inl (kb10, 40, .inl (fun j => nI (mm 10 j)))), (b11, .inl (kb11, 40, .inl (fun j => nI (mm 11 j))))] [(kb0, .int), (kb1, .int), (kb2, .int), (kb3, .int), (kb4, .int), (kb5, .int), (kb6, .int), (kb7, .int), (kb8, .int), (kb9, .int), (kb10, .int), (kb11, .int)] (fun _ => True) (fun r => (¬ (0 ≤ k.toInt ∧ k.toInt < n) ∧ r = -1) ∨ ∃ k0, k0 < n ∧ k = nI k0 ∧ r = nI (((mm 2 k0 + 100 * mm 3 k0) + 10000 * mm 4 k0) + 1000000 * zDn mm n k0)) := by
  refine zp_head (cc := cMD_span) (maxL := 2) (ret := (some .int)) (by decide +kernel) rfl (Nat.le_of_ble_eq_true rfl) ?_
  intro p e s m below meth c ls F hP hK hX hl
  obtain ⟨hx, hb, hml, hr, hlocks, hown, hts⟩ := F
  have hown : s.vm.findClass "SpannedCellsModel" = some m.cls := hown
  have hz : ∀ w9 ∈ zT, w9.before [.ref h0, .int k].toArray s = true := fun w9 h => hts w9 (List.mem_cons_of_mem _ h)
  have hl : lv_has ls 2 [(0, .ref h0), (1, .int k)] := hl
  refine z_q (fun Q hQ => ?_)
  refine lv_aload_n hx hb dMD_span_0 rfl (lv_at hl 0 rfl) ?_
  refine lv_iload_n hx hb dMD_span_1 rfl (lv_at hl 1 rfl) ?_
  refine vp_callSi (W.runV (As := [.int k]) (rest := []) ⟨hx, hb, hml, hown, hz⟩ (f_MD_isCell l dC dI h0 b0 b1 b2 b3 b4 b5 b6 b7 b8 b9 b10 b11 b12 b13 b14 b15 b16 b17 kb0 kb1 kb2 kb3 kb4 kb5 kb6 kb7 kb8 kb9 kb10 kb11 mg n _ rn ro sp gp fx _ k (hm) (by omega) (hg) (hG) (hE)) (cwV 1 hz (z_gV wd_688 wd_690 wd_15 wd_37 wd_691) rfl rfl rfl (by decide +kernel) ⟨Nat.le_of_ble_eq_true rfl, Nat.le_of_ble_eq_true rfl⟩) (zr_preV hK (hP.sub [0, 1, 2, 3, 4, 5, 6, 7, 8, 9, 10, 11, 12] rfl) (va_recv (q0 := 0) hK hP (q := (RMD, TMD, 26)) rfl rfl) [0, 1, 2, 3, 4, 5, 6, 7, 8, 9, 10, 11] rfl z_true (fun _ _ _ => trivial)) rfl rfl hl.1 rfl (lv_room (Nat.le_of_ble_eq_true rfl)) dMD_span_2 ⟨Nat.le_of_ble_eq_true rfl, Nat.le_of_ble_eq_true rfl⟩) (fun ra h_ra => ?_)
  have h_ra : z_yn ra (0 ≤ k.toInt ∧ k.toInt < n) := h_ra
  refine lv_if_eq (tgt := 47) hx hb dMD_span_5 rfl (fun h_b => ?_) (fun h_b => ?_)
  · have h_b := z_yF h_ra h_b
    refine lv_iconst (v := (-1)) hx hb dMD_span_47 (by decide) ?_
    subst hQ
    exact zp_iret hx hb hr hlocks (Or.inl ⟨h_b, rfl⟩) dMD_span_48
  · have h_b := z_yT h_ra h_b
    obtain ⟨k0, hk0, rfl⟩ := z_ofIn h_b.1 h_b.2 (by omega)
    refine lv_aload_n hx hb dMD_span_8 rfl (lv_at hl 0 rfl) ?_
    refine va_get (D := (dC, dI)) (ci := 6) (v := .ref b2) (C := RMD) (T := TMD) (N := 26) hx hb hz in_MD hown hK hP 0 rfl rfl 4 (by decide) (hz _ wd_588) (fun _ h9 => h9) rfl dMD_span_9 ?_
    refine lv_iload_n hx hb dMD_span_12 rfl (lv_at hl 1 rfl) ?_
    refine va_iald hx hb hK hP 3 2 rfl rfl (vp_in_nI (by omega) (by omega)) dMD_span_13 ?_
    refine lv_topi (fun x2 e3 => ?_)
    have e3 : x2 = nI (mm 2 k0) := e3.trans (by show nI (mm 2 (nI k0).toNatClampNeg) = _; rw [nI_clamp (by omega)])
    subst e3
    refine lv_bipush (v := nI 100) hx hb dMD_span_14 (by decide) ?_
    refine lv_aload_n hx hb dMD_span_16 rfl (lv_at hl 0 rfl) ?_
    refine va_get (D := (dC, dI)) (ci := 6) (v := .ref b3) (C := RMD) (T := TMD) (N := 26) hx hb hz in_MD hown hK hP 0 rfl rfl 5 (by decide) (hz _ wd_589) (fun _ h9 => h9) rfl dMD_span_17 ?_
    refine lv_iload_n hx hb dMD_span_20 rfl (lv_at hl 1 rfl) ?_
    refine va_iald hx hb hK hP 4 3 rfl rfl (vp_in_nI (by omega) (by omega)) dMD_span_21 ?_
    refine lv_topi (fun x4 e5 => ?_)
    have e5 : x4 = nI (mm 3 k0) := e5.trans (by show nI (mm 3 (nI k0).toNatClampNeg) = _; rw [nI_clamp (by omega)])
    subst e5
    refine lv_imul hx hb dMD_span_22 ?_
    refine lv_topi (fun x6 e7 => ?_)
    have e7 : x6 = nI (100 * (mm 3 k0)) := e7.trans (pk_mul _ _)
    subst e7
    refine lv_iadd hx hb dMD_span_23 ?_
    refine lv_topi (fun x8 e9 => ?_)
    have e9 : x8 = nI ((mm 2 k0) + (100 * (mm 3 k0))) := e9.trans (nI_add _ _)
    subst e9
    refine lv_sipush (v := nI 10000) hx hb dMD_span_24 (by decide) ?_
    refine lv_aload_n hx hb dMD_span_27 rfl (lv_at hl 0 rfl) ?_
    refine va_get (D := (dC, dI)) (ci := 6) (v := .ref b4) (C := RMD) (T := TMD) (N := 26) hx hb hz in_MD hown hK hP 0 rfl rfl 6 (by decide) (hz _ wd_590) (fun _ h9 => h9) rfl dMD_span_28 ?_
    refine lv_iload_n hx hb dMD_span_31 rfl (lv_at hl 1 rfl) ?_
    refine va_iald hx hb hK hP 5 4 rfl rfl (vp_in_nI (by omega) (by omega)) dMD_span_32 ?_
    refine lv_topi (fun x10 e11 => ?_)
    have e11 : x10 = nI (mm 4 k0) := e11.trans (by show nI (mm 4 (nI k0).toNatClampNeg) = _; rw [nI_clamp (by omega)])
    subst e11
    refine lv_imul hx hb dMD_span_33 ?_
    refine lv_topi (fun x12 e13 => ?_)
    have e13 : x12 = nI (10000 * (mm 4 k0)) := e13.trans (pk_mul _ _)
    subst e13
    refine lv_iadd hx hb dMD_span_34 ?_
    refine lv_topi (fun x14 e15 => ?_)
    have e15 : x14 = nI (((mm 2 k0) + (100 * (mm 3 k0))) + (10000 * (mm 4 k0))) := e15.trans (nI_add _ _)
    subst e15
    refine lv_ldc (v := 1000000) hx hb hown (hz _ wd_738) dMD_span_35 ?_
    refine lv_topi (fun x16 e17 => ?_)
    have e17 : x16 = nI 1000000 := e17.trans (by decide)
    subst e17
    refine lv_aload_n hx hb dMD_span_37 rfl (lv_at hl 0 rfl) ?_
    refine lv_iload_n hx hb dMD_span_38 rfl (lv_at hl 1 rfl) ?_
    refine vp_callSi (W.runV (As := [.int (nI k0)]) (rest := [.int (nI 1000000), .int (nI (((mm 2 k0) + (100 * (mm 3 k0))) + (10000 * (mm 4 k0))))]) ⟨hx, hb, hml, hown, hz⟩ (f_MD_down l dC dI h0 b0 b1 b2 b3 b4 b5 b6 b7 b8 b9 b10 b11 b12 b13 b14 b15 b16 b17 kb0 kb1 kb2 kb3 kb4 kb5 kb6 kb7 kb8 kb9 kb10 kb11 mg n _ rn ro sp gp fx _ k0 (hm) (by omega) (hg) (hG) (hE) (by omega)) (cwV 1 hz (z_gV wd_716 wd_718 wd_17 wd_37 wd_719) rfl rfl rfl (by decide +kernel) ⟨Nat.le_of_ble_eq_true rfl, Nat.le_of_ble_eq_true rfl⟩) (zr_preV hK (hP.sub [0, 1, 2, 3, 4, 5, 6, 7, 8, 9, 10, 11, 12] rfl) (va_recv (q0 := 0) hK hP (q := (RMD, TMD, 26)) rfl rfl) [0, 1, 2, 3, 4, 5, 6, 7, 8, 9, 10, 11] rfl z_true (fun _ _ _ => trivial)) rfl rfl hl.1 rfl (lv_room (Nat.le_of_ble_eq_true rfl)) dMD_span_39 ⟨Nat.le_of_ble_eq_true rfl, Nat.le_of_ble_eq_true rfl⟩) (fun r18 h_r18 => ?_)
    have h_r18 : r18 = nI (zDn mm n k0) := h_r18
    subst h_r18
    refine lv_imul hx hb dMD_span_42 ?_
    refine lv_topi (fun x19 e20 => ?_)
    have e20 : x19 = nI (1000000 * (zDn mm n k0)) := e20.trans (pk_mul _ _)
    subst e20
    refine lv_iadd hx hb dMD_span_43 ?_
    refine lv_topi (fun x21 e22 => ?_)
    have e22 : x21 = nI ((((mm 2 k0) + (100 * (mm 3 k0))) + (10000 * (mm 4 k0))) + (1000000 * (zDn mm n k0))) := e22.trans (nI_add _ _)
    subst e22
    refine lv_goto (tgt := 48) hx hb dMD_span_44 rfl ?_
    subst hQ
    exact zp_iret hx hb hr hlocks (Or.inr ⟨k0, hk0, rfl, rfl⟩) dMD_span_48

set_option maxHeartbeats 4000000 in
set_option maxRecDepth 100000 in
theorem f_MD_strongerA (l : Launch) (dC : Nat → ClassId) (dI : Nat → Nat → Nat) (h0 : Nat) (b0 : Nat) (b1 : Nat) (b2 : Nat) (b3 : Nat) (b4 : Nat) (b5 : Nat) (b6 : Nat) (b7 : Nat) (b8 : Nat) (b9 : Nat) (b10 : Nat) (b11 : Nat) (b12 : Nat) (b13 : Nat) (b14 : Nat) (b15 : Nat) (b16 : Nat) (b17 : Nat) (kb0 : ClassId) (kb1 : ClassId) (kb2 : ClassId) (kb3 : ClassId) (kb4 : ClassId) (kb5 : ClassId) (kb6 : ClassId) (kb7 : ClassId) (kb8 : ClassId) (kb9 : ClassId) (kb10 : ClassId) (kb11 : ClassId) (mg : Nat) (n : Nat) (rg : Nat) (rn : Nat) (ro : Nat) (sp : Nat) (gp : Nat) (fx : Nat) (mm : Nat → Nat → Nat) (k2 : Nat) (hm : ∀ a k, mm a k ≤ 1000) (hn : n ≤ 40) (hg : 1 ≤ mg ∧ mg ≤ 8 ∧ rg ≤ 8 ∧ rn ≤ 1000 ∧ ro ≤ 1000) (hG : ∀ k, k < n → mm 6 k < 8) (hE : ∀ k, k < n → mm 3 k ≤ zEn mm (mm 6 k) n) : zp_M l yMD_stronger wMD_stronger ({ frames := 0, cells := 0, slots := 0, locals := 0 }) [.ref h0, .int (-1), .int (nI k2)] (dC, dI) vwCl [(h0, .inr (6, [.int (nI mg), .ref b0, .ref b1, .int (nI n), .ref b2, .ref b3, .ref b4, .ref b5, .ref b6, .ref b7, .ref b8, .ref b9, .ref b10, .ref b11, .int (nI rg - nI 1), .int (nI rn), .int (nI ro), .int (nI sp), .int (nI gp), .int (nI fx), .ref b12, .ref b13, .ref b14, .ref b15, .ref b16, .ref b17])), (b0, .inl (kb0, 8, .inl (fun j => nI (mm 0 j)))), (b1, .inl (kb1, 8, .inl (fun j => nI (mm 1 j)))), (b2, .inl (kb2, 40, .inl (fun j => nI (mm 2 j)))), (b3, .inl (kb3, 40, .inl (fun j => nI (mm 3 j)))), (b4, .inl (kb4, 40, .inl (fun j => nI (mm 4 j)))), (b5, .inl (kb5, 40, .inl (fun j => nI (mm 5 j)))), (b6, .inl (kb6, 40, .inl (fun j => nI (mm 6 j)))), (b7, .inl (kb7, 40, .inl (fun j => nI (mm 7 j)))), (b8, .inl (kb8, 40, .inl (fun j => nI (mm 8 j)))), (b9, .inl (kb9, 40, .inl (fun j => nI (mm 9 j)))), (b10, .inl (kb10, 40, .inl (fun j => nI (mm 10 j)))), (b11, .inl (kb11, 40, .inl (fun j => nI (mm 11 j))))] [(kb0, .int), (kb1, .int), (kb2, .int), (kb3, .int), (kb4, .int), (kb5, .int), (kb6, .int), (kb7, .int), (kb8, .int), (kb9, .int), (kb10, .int), (kb11, .int)] (fun _ => True) (fun r => r = nI k2) := by
  refine zp_head (cc := cMD_stronger) (maxL := 3) (ret := (some .int)) (by decide +kernel) rfl (Nat.le_of_ble_eq_true rfl) ?_
  intro p e s m below meth c ls F hP hK hX hl
  obtain ⟨hx, hb, hml, hr, hlocks, hown, hts⟩ := F
  have hown : s.vm.findClass "SpannedCellsModel" = some m.cls := hown
  have hz : ∀ w9 ∈ zT, w9.before [.ref h0, .int (-1), .int (nI k2)].toArray s = true := fun w9 h => hts w9 (List.mem_cons_of_mem _ h)
  have hl : lv_has ls 3 [(0, .ref h0), (1, .int (-1)), (2, .int (nI k2))] := hl
  refine z_q (fun Q hQ => ?_)
  refine lv_iload_n hx hb dMD_stronger_0 rfl (lv_at hl 1 rfl) ?_
  refine lv_if_lt (tgt := 8) hx hb dMD_stronger_1 rfl (fun _ => ?_) (fun h => absurd (by decide) h)
  refine lv_iload_n hx hb dMD_stronger_8 rfl (lv_at hl 1 rfl) ?_
  refine lv_if_ge (tgt := 16) hx hb dMD_stronger_9 rfl (fun h => absurd h (by decide)) (fun _ => ?_)
  refine lv_iload_n hx hb dMD_stronger_12 rfl (lv_at hl 2 rfl) ?_
  refine lv_goto (tgt := 17) hx hb dMD_stronger_13 rfl ?_
  subst hQ
  exact zp_iret hx hb hr hlocks (rfl) dMD_stronger_17

set_option maxHeartbeats 4000000 in
set_option maxRecDepth 100000 in
theorem f_MD_strongerB (l : Launch) (dC : Nat → ClassId) (dI : Nat → Nat → Nat) (h0 : Nat) (b0 : Nat) (b1 : Nat) (b2 : Nat) (b3 : Nat) (b4 : Nat) (b5 : Nat) (b6 : Nat) (b7 : Nat) (b8 : Nat) (b9 : Nat) (b10 : Nat) (b11 : Nat) (b12 : Nat) (b13 : Nat) (b14 : Nat) (b15 : Nat) (b16 : Nat) (b17 : Nat) (kb0 : ClassId) (kb1 : ClassId) (kb2 : ClassId) (kb3 : ClassId) (kb4 : ClassId) (kb5 : ClassId) (kb6 : ClassId) (kb7 : ClassId) (kb8 : ClassId) (kb9 : ClassId) (kb10 : ClassId) (kb11 : ClassId) (mg : Nat) (n : Nat) (rg : Nat) (rn : Nat) (ro : Nat) (sp : Nat) (gp : Nat) (fx : Nat) (mm : Nat → Nat → Nat) (k1 : Nat) (hm : ∀ a k, mm a k ≤ 1000) (hn : n ≤ 40) (hg : 1 ≤ mg ∧ mg ≤ 8 ∧ rg ≤ 8 ∧ rn ≤ 1000 ∧ ro ≤ 1000) (hG : ∀ k, k < n → mm 6 k < 8) (hE : ∀ k, k < n → mm 3 k ≤ zEn mm (mm 6 k) n) (hk1 : k1 < n) : zp_M l yMD_stronger wMD_stronger ({ frames := 0, cells := 0, slots := 0, locals := 0 }) [.ref h0, .int (nI k1), .int (-1)] (dC, dI) vwCl [(h0, .inr (6, [.int (nI mg), .ref b0, .ref b1, .int (nI n), .ref b2, .ref b3, .ref b4, .ref b5, .ref b6, .ref b7, .ref b8, .ref b9, .ref b10, .ref b11, .int (nI rg - nI 1), .int (nI rn), .int (nI ro), .int (nI sp), .int (nI gp), .int (nI fx), .ref b12, .ref b13, .ref b14, .ref b15, .ref b16, .ref b17])), (b0, .inl (kb0, 8, .inl (fun j => nI (mm 0 j)))), (b1, .inl (kb1, 8, .inl (fun j => nI (mm 1 j)))), (b2, .inl (kb2, 40, .inl (fun j => nI (mm 2 j)))), (b3, .inl (kb3, 40, .inl (fun j => nI (mm 3 j)))), (b4, .inl (kb4, 40, .inl (fun j => nI (mm 4 j)))), (b5, .inl (kb5, 40, .inl (fun j => nI (mm 5 j)))), (b6, .inl (kb6, 40, .inl (fun j => nI (mm 6 j)))), (b7, .inl (kb7, 40, .inl (fun j => nI (mm 7 j)))), (b8, .inl (kb8, 40, .inl (fun j => nI (mm 8 j)))), (b9, .inl (kb9, 40, .inl (fun j => nI (mm 9 j)))), (b10, .inl (kb10, 40, .inl (fun j => nI (mm 10 j)))), (b11, .inl (kb11, 40, .inl (fun j => nI (mm 11 j))))] [(kb0, .int), (kb1, .int), (kb2, .int), (kb3, .int), (kb4, .int), (kb5, .int), (kb6, .int), (kb7, .int), (kb8, .int), (kb9, .int), (kb10, .int), (kb11, .int)] (fun _ => True) (fun r => r = nI k1) := by
  refine zp_head (cc := cMD_stronger) (maxL := 3) (ret := (some .int)) (by decide +kernel) rfl (Nat.le_of_ble_eq_true rfl) ?_
  intro p e s m below meth c ls F hP hK hX hl
  obtain ⟨hx, hb, hml, hr, hlocks, hown, hts⟩ := F
  have hown : s.vm.findClass "SpannedCellsModel" = some m.cls := hown
  have hz : ∀ w9 ∈ zT, w9.before [.ref h0, .int (nI k1), .int (-1)].toArray s = true := fun w9 h => hts w9 (List.mem_cons_of_mem _ h)
  have hl : lv_has ls 3 [(0, .ref h0), (1, .int (nI k1)), (2, .int (-1))] := hl
  refine z_q (fun Q hQ => ?_)
  refine lv_iload_n hx hb dMD_stronger_0 rfl (lv_at hl 1 rfl) ?_
  have t1 := nI_toInt (n := k1) (by omega)
  have t2 : (0 : Int32).toInt = 0 := by decide
  refine lv_if_lt (tgt := 8) hx hb dMD_stronger_1 rfl (fun h => by have h := z_lt h; omega) (fun _ => ?_)
  refine lv_iload_n hx hb dMD_stronger_4 rfl (lv_at hl 2 rfl) ?_
  refine lv_if_ge (tgt := 18) hx hb dMD_stronger_5 rfl (fun h => absurd h (by decide)) (fun _ => ?_)
  refine lv_iload_n hx hb dMD_stronger_8 rfl (lv_at hl 1 rfl) ?_
  have t3 := nI_toInt (n := k1) (by omega)
  have t4 : (0 : Int32).toInt = 0 := by decide
  refine lv_if_ge (tgt := 16) hx hb dMD_stronger_9 rfl (fun _ => ?_) (fun h => by have h := z_nle h; omega)
  refine lv_iload_n hx hb dMD_stronger_16 rfl (lv_at hl 1 rfl) ?_
  subst hQ
  exact zp_iret hx hb hr hlocks (rfl) dMD_stronger_17

set_option maxHeartbeats 4000000 in
set_option maxRecDepth 100000 in
theorem f_MD_stronger (l : Launch) (dC : Nat → ClassId) (dI : Nat → Nat → Nat) (h0 : Nat) (b0 : Nat) (b1 : Nat) (b2 : Nat) (b3 : Nat) (b4 : Nat) (b5 : Nat) (b6 : Nat) (b7 : Nat) (b8 : Nat) (b9 : Nat) (b10 : Nat) (b11 : Nat) (b12 : Nat) (b13 : Nat) (b14 : Nat) (b15 : Nat) (b16 : Nat) (b17 : Nat) (kb0 : ClassId) (kb1 : ClassId) (kb2 : ClassId) (kb3 : ClassId) (kb4 : ClassId) (kb5 : ClassId) (kb6 : ClassId) (kb7 : ClassId) (kb8 : ClassId) (kb9 : ClassId) (kb10 : ClassId) (kb11 : ClassId) (mg : Nat) (n : Nat) (rg : Nat) (rn : Nat) (ro : Nat) (sp : Nat) (gp : Nat) (fx : Nat) (mm : Nat → Nat → Nat) (k1 : Nat) (k2 : Nat) (hm : ∀ a k, mm a k ≤ 1000) (hn : n ≤ 40) (hg : 1 ≤ mg ∧ mg ≤ 8 ∧ rg ≤ 8 ∧ rn ≤ 1000 ∧ ro ≤ 1000) (hG : ∀ k, k < n → mm 6 k < 8) (hE : ∀ k, k < n → mm 3 k ≤ zEn mm (mm 6 k) n) (hk1 : k1 < n) (hk2 : k2 < n) : zp_M l yMD_stronger wMD_stronger ({ frames := 0, cells := 0, slots := 0, locals := 0 }) [.ref h0, .int (nI k1), .int (nI k2)] (dC, dI) vwCl [(h0, .inr (6, [.int (nI mg), .ref b0, .ref b1, .int (nI n), .ref b2, .ref b3, .ref b4, .ref b5, .ref b6, .ref b7, .ref b8, .ref b9, .ref b10, .ref b11, .int (nI rg - nI 1), .int (nI rn), .int (nI ro), .int (nI sp), .int (nI gp), .int (nI fx), .ref b12, .ref b13, .ref b14, .ref b15, .ref b16, .ref b17])), (b0, .inl (kb0, 8, .inl (fun j => nI (mm 0 j)))), (b1, .inl (kb1, 8, .inl (fun j => nI (mm 1 j)))), (b2, .inl (kb2, 40, .inl (fun j => nI (mm 2 j)))), (b3, .inl (kb3, 40, .inl (fun j => nI (mm 3 j)))), (b4, .inl (kb4, 40, .inl (fun j => nI (mm 4 j)))), (b5, .inl (kb5, 40, .inl (fun j => nI (mm 5 j)))), (b6, .inl (kb6, 40, .inl (fun j => nI (mm 6 j)))), (b7, .inl (kb7, 40, .inl (fun j => nI (mm 7 j)))), (b8, .inl (kb8, 40, .inl (fun j => nI (mm 8 j)))), (b9, .inl (kb9, 40, .inl (fun j => nI (mm 9 j)))), (b10, .inl (kb10, 40, .inl (fun j => nI (mm 10 j)))), (b11, .inl (kb11, 40, .inl (fun j => nI (mm 11 j))))] [(kb0, .int), (kb1, .int), (kb2, .int), (kb3, .int), (kb4, .int), (kb5, .int), (kb6, .int), (kb7, .int), (kb8, .int), (kb9, .int), (kb10, .int), (kb11, .int)] (fun _ => True) (fun r => (zPv (mm 10 k2) (mm 11 k2) (mm 10 k1) (mm 11 k1) ∧ r = nI k2) ∨ (¬ zPv (mm 10 k2) (mm 11 k2) (mm 10 k1) (mm 11 k1) ∧ r = nI k1)) := by
  refine zp_head (cc := cMD_stronger) (maxL := 3) (ret := (some .int)) (by decide +kernel) rfl (Nat.le_of_ble_eq_true rfl) ?_
  intro p e s m below meth c ls F hP hK hX hl
  obtain ⟨hx, hb, hml, hr, hlocks, hown, hts⟩ := F
  have hown : s.vm.findClass "SpannedCellsModel" = some m.cls := hown
  have hz : ∀ w9 ∈ zT, w9.before [.ref h0, .int (nI k1), .int (nI k2)].toArray s = true := fun w9 h => hts w9 (List.mem_cons_of_mem _ h)
  have hl : lv_has ls 3 [(0, .ref h0), (1, .int (nI k1)), (2, .int (nI k2))] := hl
  refine z_q (fun Q hQ => ?_)
  refine lv_iload_n hx hb dMD_stronger_0 rfl (lv_at hl 1 rfl) ?_
  have t1 := nI_toInt (n := k1) (by omega)
  have t2 : (0 : Int32).toInt = 0 := by decide
  refine lv_if_lt (tgt := 8) hx hb dMD_stronger_1 rfl (fun h => by have h := z_lt h; omega) (fun _ => ?_)
  refine lv_iload_n hx hb dMD_stronger_4 rfl (lv_at hl 2 rfl) ?_
  have t3 := nI_toInt (n := k2) (by omega)
  have t4 : (0 : Int32).toInt = 0 := by decide
  refine lv_if_ge (tgt := 18) hx hb dMD_stronger_5 rfl (fun _ => ?_) (fun h => by have h := z_nle h; omega)
  refine lv_aload_n hx hb dMD_stronger_18 rfl (lv_at hl 0 rfl) ?_
  refine va_get (D := (dC, dI)) (ci := 6) (v := .ref b11) (C := RMD) (T := TMD) (N := 26) hx hb hz in_MD hown hK hP 0 rfl rfl 13 (by decide) (hz _ wd_597) (fun _ h9 => h9) rfl dMD_stronger_19 ?_
  refine lv_iload_n hx hb dMD_stronger_22 rfl (lv_at hl 1 rfl) ?_
  refine va_iald hx hb hK hP 12 11 rfl rfl (vp_in_nI (by omega) (by omega)) dMD_stronger_23 ?_
  refine lv_topi (fun x5 e6 => ?_)
  have e6 : x5 = nI (mm 11 k1) := e6.trans (by show nI (mm 11 (nI k1).toNatClampNeg) = _; rw [nI_clamp (by omega)])
  subst e6
  refine lv_iconst (v := nI 4) hx hb dMD_stronger_24 (by decide) ?_
  have t7 := hm 11 k1
  have t8 := nI_toInt (n := mm 11 k1) (by omega)
  have t9 := nI_toInt (n := 4) (by omega)
  refine lv_icmp_eq (tgt := 38) hx hb dMD_stronger_25 rfl (fun h10 => ?_) (fun h10 => ?_)
  · have h10 := z_eq h10
    refine lv_aload_n hx hb dMD_stronger_38 rfl (lv_at hl 0 rfl) ?_
    refine va_get (D := (dC, dI)) (ci := 6) (v := .ref b11) (C := RMD) (T := TMD) (N := 26) hx hb hz in_MD hown hK hP 0 rfl rfl 13 (by decide) (hz _ wd_597) (fun _ h9 => h9) rfl dMD_stronger_39 ?_
    refine lv_iload_n hx hb dMD_stronger_42 rfl (lv_at hl 1 rfl) ?_
    refine va_iald hx hb hK hP 12 11 rfl rfl (vp_in_nI (by omega) (by omega)) dMD_stronger_43 ?_
    refine lv_topi (fun x11 e12 => ?_)
    have e12 : x11 = nI (mm 11 k1) := e12.trans (by show nI (mm 11 (nI k1).toNatClampNeg) = _; rw [nI_clamp (by omega)])
    subst e12
    refine lv_iconst (v := nI 4) hx hb dMD_stronger_44 (by decide) ?_
    have t13 := hm 11 k1
    have t14 := nI_toInt (n := mm 11 k1) (by omega)
    have t15 := nI_toInt (n := 4) (by omega)
    refine lv_icmp_ne (tgt := 52) hx hb dMD_stronger_45 rfl (fun h16 => ?_) (fun h16 => ?_)
    · have h16 := z_ne h16
      refine lv_iload_n hx hb dMD_stronger_52 rfl (lv_at hl 2 rfl) ?_
      subst hQ
      exact zp_iret hx hb hr hlocks (Or.inl ⟨show _ ∧ _ by omega, rfl⟩) dMD_stronger_53
    · have h16 := z_eq h16
      refine lv_iload_n hx hb dMD_stronger_48 rfl (lv_at hl 1 rfl) ?_
      refine lv_goto (tgt := 53) hx hb dMD_stronger_49 rfl ?_
      subst hQ
      exact zp_iret hx hb hr hlocks (Or.inr ⟨show ¬ (_ ∧ _) by omega, rfl⟩) dMD_stronger_53
  · have h10 := z_ne h10
    refine lv_aload_n hx hb dMD_stronger_28 rfl (lv_at hl 0 rfl) ?_
    refine va_get (D := (dC, dI)) (ci := 6) (v := .ref b11) (C := RMD) (T := TMD) (N := 26) hx hb hz in_MD hown hK hP 0 rfl rfl 13 (by decide) (hz _ wd_597) (fun _ h9 => h9) rfl dMD_stronger_29 ?_
    refine lv_iload_n hx hb dMD_stronger_32 rfl (lv_at hl 2 rfl) ?_
    refine va_iald hx hb hK hP 12 11 rfl rfl (vp_in_nI (by omega) (by omega)) dMD_stronger_33 ?_
    refine lv_topi (fun x17 e18 => ?_)
    have e18 : x17 = nI (mm 11 k2) := e18.trans (by show nI (mm 11 (nI k2).toNatClampNeg) = _; rw [nI_clamp (by omega)])
    subst e18
    refine lv_iconst (v := nI 4) hx hb dMD_stronger_34 (by decide) ?_
    have t19 := hm 11 k2
    have t20 := nI_toInt (n := mm 11 k2) (by omega)
    have t21 := nI_toInt (n := 4) (by omega)
    refine lv_icmp_ne (tgt := 54) hx hb dMD_stronger_35 rfl (fun h22 => ?_) (fun h22 => ?_)
    · have h22 := z_ne h22
      refine lv_aload_n hx hb dMD_stronger_54 rfl (lv_at hl 0 rfl) ?_
      refine va_get (D := (dC, dI)) (ci := 6) (v := .ref b10) (C := RMD) (T := TMD) (N := 26) hx hb hz in_MD hown hK hP 0 rfl rfl 12 (by decide) (hz _ wd_596) (fun _ h9 => h9) rfl dMD_stronger_55 ?_
      refine lv_iload_n hx hb dMD_stronger_58 rfl (lv_at hl 1 rfl) ?_
      refine va_iald hx hb hK hP 11 10 rfl rfl (vp_in_nI (by omega) (by omega)) dMD_stronger_59 ?_
      refine lv_topi (fun x23 e24 => ?_)
      have e24 : x23 = nI (mm 10 k1) := e24.trans (by show nI (mm 10 (nI k1).toNatClampNeg) = _; rw [nI_clamp (by omega)])
      subst e24
      refine lv_aload_n hx hb dMD_stronger_60 rfl (lv_at hl 0 rfl) ?_
      refine va_get (D := (dC, dI)) (ci := 6) (v := .ref b10) (C := RMD) (T := TMD) (N := 26) hx hb hz in_MD hown hK hP 0 rfl rfl 12 (by decide) (hz _ wd_596) (fun _ h9 => h9) rfl dMD_stronger_61 ?_
      refine lv_iload_n hx hb dMD_stronger_64 rfl (lv_at hl 2 rfl) ?_
      refine va_iald hx hb hK hP 11 10 rfl rfl (vp_in_nI (by omega) (by omega)) dMD_stronger_65 ?_
      refine lv_topi (fun x25 e26 => ?_)
      have e26 : x25 = nI (mm 10 k2) := e26.trans (by show nI (mm 10 (nI k2).toNatClampNeg) = _; rw [nI_clamp (by omega)])
      subst e26
      have t27 := hm 10 k1
      have t28 := nI_toInt (n := mm 10 k1) (by omega)
      have t29 := hm 10 k2
      have t30 := nI_toInt (n := mm 10 k2) (by omega)
      refine lv_icmp_eq (tgt := 90) hx hb dMD_stronger_66 rfl (fun h31 => ?_) (fun h31 => ?_)
      · have h31 := z_eq h31
        refine lv_aload_n hx hb dMD_stronger_90 rfl (lv_at hl 0 rfl) ?_
        refine va_get (D := (dC, dI)) (ci := 6) (v := .ref b11) (C := RMD) (T := TMD) (N := 26) hx hb hz in_MD hown hK hP 0 rfl rfl 13 (by decide) (hz _ wd_597) (fun _ h9 => h9) rfl dMD_stronger_91 ?_
        refine lv_iload_n hx hb dMD_stronger_94 rfl (lv_at hl 2 rfl) ?_
        refine va_iald hx hb hK hP 12 11 rfl rfl (vp_in_nI (by omega) (by omega)) dMD_stronger_95 ?_
        refine lv_topi (fun x32 e33 => ?_)
        have e33 : x32 = nI (mm 11 k2) := e33.trans (by show nI (mm 11 (nI k2).toNatClampNeg) = _; rw [nI_clamp (by omega)])
        subst e33
        refine lv_aload_n hx hb dMD_stronger_96 rfl (lv_at hl 0 rfl) ?_
        refine va_get (D := (dC, dI)) (ci := 6) (v := .ref b11) (C := RMD) (T := TMD) (N := 26) hx hb hz in_MD hown hK hP 0 rfl rfl 13 (by decide) (hz _ wd_597) (fun _ h9 => h9) rfl dMD_stronger_97 ?_
        refine lv_iload_n hx hb dMD_stronger_100 rfl (lv_at hl 1 rfl) ?_
        refine va_iald hx hb hK hP 12 11 rfl rfl (vp_in_nI (by omega) (by omega)) dMD_stronger_101 ?_
        refine lv_topi (fun x34 e35 => ?_)
        have e35 : x34 = nI (mm 11 k1) := e35.trans (by show nI (mm 11 (nI k1).toNatClampNeg) = _; rw [nI_clamp (by omega)])
        subst e35
        have t36 := hm 11 k2
        have t37 := nI_toInt (n := mm 11 k2) (by omega)
        have t38 := hm 11 k1
        have t39 := nI_toInt (n := mm 11 k1) (by omega)
        refine lv_icmp_le (tgt := 109) hx hb dMD_stronger_102 rfl (fun h40 => ?_) (fun h40 => ?_)
        · have h40 := z_le h40
          refine lv_iload_n hx hb dMD_stronger_109 rfl (lv_at hl 1 rfl) ?_
          subst hQ
          exact zp_iret hx hb hr hlocks (Or.inr ⟨show ¬ (_ ∧ _) by omega, rfl⟩) dMD_stronger_110
        · have h40 := z_nle h40
          refine lv_iload_n hx hb dMD_stronger_105 rfl (lv_at hl 2 rfl) ?_
          refine lv_goto (tgt := 110) hx hb dMD_stronger_106 rfl ?_
          subst hQ
          exact zp_iret hx hb hr hlocks (Or.inl ⟨show _ ∧ _ by omega, rfl⟩) dMD_stronger_110
      · have h31 := z_ne h31
        refine lv_aload_n hx hb dMD_stronger_69 rfl (lv_at hl 0 rfl) ?_
        refine va_get (D := (dC, dI)) (ci := 6) (v := .ref b10) (C := RMD) (T := TMD) (N := 26) hx hb hz in_MD hown hK hP 0 rfl rfl 12 (by decide) (hz _ wd_596) (fun _ h9 => h9) rfl dMD_stronger_70 ?_
        refine lv_iload_n hx hb dMD_stronger_73 rfl (lv_at hl 1 rfl) ?_
        refine va_iald hx hb hK hP 11 10 rfl rfl (vp_in_nI (by omega) (by omega)) dMD_stronger_74 ?_
        refine lv_topi (fun x41 e42 => ?_)
        have e42 : x41 = nI (mm 10 k1) := e42.trans (by show nI (mm 10 (nI k1).toNatClampNeg) = _; rw [nI_clamp (by omega)])
        subst e42
        refine lv_aload_n hx hb dMD_stronger_75 rfl (lv_at hl 0 rfl) ?_
        refine va_get (D := (dC, dI)) (ci := 6) (v := .ref b10) (C := RMD) (T := TMD) (N := 26) hx hb hz in_MD hown hK hP 0 rfl rfl 12 (by decide) (hz _ wd_596) (fun _ h9 => h9) rfl dMD_stronger_76 ?_
        refine lv_iload_n hx hb dMD_stronger_79 rfl (lv_at hl 2 rfl) ?_
        refine va_iald hx hb hK hP 11 10 rfl rfl (vp_in_nI (by omega) (by omega)) dMD_stronger_80 ?_
        refine lv_topi (fun x43 e44 => ?_)
        have e44 : x43 = nI (mm 10 k2) := e44.trans (by show nI (mm 10 (nI k2).toNatClampNeg) = _; rw [nI_clamp (by omega)])
        subst e44
        have t45 := hm 10 k1
        have t46 := nI_toInt (n := mm 10 k1) (by omega)
        have t47 := hm 10 k2
        have t48 := nI_toInt (n := mm 10 k2) (by omega)
        refine lv_icmp_le (tgt := 88) hx hb dMD_stronger_81 rfl (fun h49 => ?_) (fun h49 => ?_)
        · have h49 := z_le h49
          refine lv_iload_n hx hb dMD_stronger_88 rfl (lv_at hl 2 rfl) ?_
          subst hQ
          exact zp_iret hx hb hr hlocks (Or.inl ⟨show _ ∧ _ by omega, rfl⟩) dMD_stronger_89
        · have h49 := z_nle h49
          refine lv_iload_n hx hb dMD_stronger_84 rfl (lv_at hl 1 rfl) ?_
          refine lv_goto (tgt := 89) hx hb dMD_stronger_85 rfl ?_
          subst hQ
          exact zp_iret hx hb hr hlocks (Or.inr ⟨show ¬ (_ ∧ _) by omega, rfl⟩) dMD_stronger_89
    · have h22 := z_eq h22
      refine lv_aload_n hx hb dMD_stronger_38 rfl (lv_at hl 0 rfl) ?_
      refine va_get (D := (dC, dI)) (ci := 6) (v := .ref b11) (C := RMD) (T := TMD) (N := 26) hx hb hz in_MD hown hK hP 0 rfl rfl 13 (by decide) (hz _ wd_597) (fun _ h9 => h9) rfl dMD_stronger_39 ?_
      refine lv_iload_n hx hb dMD_stronger_42 rfl (lv_at hl 1 rfl) ?_
      refine va_iald hx hb hK hP 12 11 rfl rfl (vp_in_nI (by omega) (by omega)) dMD_stronger_43 ?_
      refine lv_topi (fun x50 e51 => ?_)
      have e51 : x50 = nI (mm 11 k1) := e51.trans (by show nI (mm 11 (nI k1).toNatClampNeg) = _; rw [nI_clamp (by omega)])
      subst e51
      refine lv_iconst (v := nI 4) hx hb dMD_stronger_44 (by decide) ?_
      have t52 := hm 11 k1
      have t53 := nI_toInt (n := mm 11 k1) (by omega)
      have t54 := nI_toInt (n := 4) (by omega)
      refine lv_icmp_ne (tgt := 52) hx hb dMD_stronger_45 rfl (fun h55 => ?_) (fun h55 => ?_)
      · have h55 := z_ne h55
        refine lv_iload_n hx hb dMD_stronger_52 rfl (lv_at hl 2 rfl) ?_
        subst hQ
        exact zp_iret hx hb hr hlocks (Or.inl ⟨show _ ∧ _ by omega, rfl⟩) dMD_stronger_53
      · have h55 := z_eq h55
        refine lv_iload_n hx hb dMD_stronger_48 rfl (lv_at hl 1 rfl) ?_
        refine lv_goto (tgt := 53) hx hb dMD_stronger_49 rfl ?_
        subst hQ
        exact zp_iret hx hb hr hlocks (Or.inr ⟨show ¬ (_ ∧ _) by omega, rfl⟩) dMD_stronger_53

set_option maxHeartbeats 4000000 in
set_option maxRecDepth 100000 in
theorem f_MD_edge (l : Launch) (dC : Nat → ClassId) (dI : Nat → Nat → Nat) (h0 : Nat) (b0 : Nat) (b1 : Nat) (b2 : Nat) (b3 : Nat) (b4 : Nat) (b5 : Nat) (b6 : Nat) (b7 : Nat) (b8 : Nat) (b9 : Nat) (b10 : Nat) (b11 : Nat) (b12 : Nat) (b13 : Nat) (b14 : Nat) (b15 : Nat) (b16 : Nat) (b17 : Nat) (kb0 : ClassId) (kb1 : ClassId) (kb2 : ClassId) (kb3 : ClassId) (kb4 : ClassId) (kb5 : ClassId) (kb6 : ClassId) (kb7 : ClassId) (kb8 : ClassId) (kb9 : ClassId) (kb10 : ClassId) (kb11 : ClassId) (mg : Nat) (n : Nat) (rg : Nat) (rn : Nat) (ro : Nat) (sp : Nat) (gp : Nat) (fx : Nat) (mm : Nat → Nat → Nat) (x : Int32) (y : Int32) (f : Int32) (hm : ∀ a k, mm a k ≤ 1000) (hn : n ≤ 40) (hg : 1 ≤ mg ∧ mg ≤ 8 ∧ rg ≤ 8 ∧ rn ≤ 1000 ∧ ro ≤ 1000) (hG : ∀ k, k < n → mm 6 k < 8) (hE : ∀ k, k < n → mm 3 k ≤ zEn mm (mm 6 k) n) : zp_M l yMD_edge wMD_edge ({ frames := 4, cells := 0, slots := 0, locals := 92 }) [.ref h0, .int x, .int y, .int f] (dC, dI) vwCl [(h0, .inr (6, [.int (nI mg), .ref b0, .ref b1, .int (nI n), .ref b2, .ref b3, .ref b4, .ref b5, .ref b6, .ref b7, .ref b8, .ref b9, .ref b10, .ref b11, .int (nI rg - nI 1), .int (nI rn), .int (nI ro), .int (nI sp), .int (nI gp), .int (nI fx), .ref b12, .ref b13, .ref b14, .ref b15, .ref b16, .ref b17])), (b0, .inl (kb0, 8, .inl (fun j => nI (mm 0 j)))), (b1, .inl (kb1, 8, .inl (fun j => nI (mm 1 j)))), (b2, .inl (kb2, 40, .inl (fun j => nI (mm 2 j)))), (b3, .inl (kb3, 40, .inl (fun j => nI (mm 3 j)))), (b4, .inl (kb4, 40, .inl (fun j => nI (mm 4 j)))), (b5, .inl (kb5, 40, .inl (fun j => nI (mm 5 j)))), (b6, .inl (kb6, 40, .inl (fun j => nI (mm 6 j)))), (b7, .inl (kb7, 40, .inl (fun j => nI (mm 7 j)))), (b8, .inl (kb8, 40, .inl (fun j => nI (mm 8 j)))), (b9, .inl (kb9, 40, .inl (fun j => nI (mm 9 j)))), (b10, .inl (kb10, 40, .inl (fun j => nI (mm 10 j)))), (b11, .inl (kb11, 40, .inl (fun j => nI (mm 11 j))))] [(kb0, .int), (kb1, .int), (kb2, .int), (kb3, .int), (kb4, .int), (kb5, .int), (kb6, .int), (kb7, .int), (kb8, .int), (kb9, .int), (kb10, .int), (kb11, .int)] (fun _ => True) (fun r => (¬ ((0 ≤ x.toInt ∧ x.toInt < zCo mm n) ∧ (0 ≤ y.toInt ∧ y.toInt < zEn mm (mg - 1) n)) ∧ r = -1) ∨ (((0 ≤ x.toInt ∧ x.toInt < zCo mm n) ∧ (0 ≤ y.toInt ∧ y.toInt < zEn mm (mg - 1) n)) ∧ ∃ c1 c2, zFst n (zMt mm n x y) c1 ∧ zFst n (zMt mm n (if f = 0 then x + nI 1 else x) (if f = 0 then y else y + nI 1)) c2 ∧ zDr n (mm 10) (mm 11) c1 c2 r)) := by
  refine zp_head (cc := cMD_edge) (maxL := 6) (ret := (some .int)) (by decide +kernel) rfl (Nat.le_of_ble_eq_true rfl) ?_
  intro p e s m below meth c ls F hP hK hX hl
  obtain ⟨hx, hb, hml, hr, hlocks, hown, hts⟩ := F
  have hown : s.vm.findClass "SpannedCellsModel" = some m.cls := hown
  have hz : ∀ w9 ∈ zT, w9.before [.ref h0, .int x, .int y, .int f].toArray s = true := fun w9 h => hts w9 (List.mem_cons_of_mem _ h)
  have hl : lv_has ls 6 [(0, .ref h0), (1, .int x), (2, .int y), (3, .int f)] := hl
  refine z_q (fun Q hQ => ?_)
  refine lv_iload_n hx hb dMD_edge_0 rfl (lv_at hl 1 rfl) ?_
  have t1 : (0 : Int32).toInt = 0 := by decide
  refine lv_if_lt (tgt := 24) hx hb dMD_edge_1 rfl (fun h2 => ?_) (fun h2 => ?_)
  · have h2 := z_lt h2
    refine lv_iconst (v := (-1)) hx hb dMD_edge_24 (by decide) ?_
    subst hQ
    exact zp_iret hx hb hr hlocks (Or.inl ⟨by omega, rfl⟩) dMD_edge_25
  · have h2 := z_nlt h2
    refine lv_iload_n hx hb dMD_edge_4 rfl (lv_at hl 1 rfl) ?_
    refine lv_aload_n hx hb dMD_edge_5 rfl (lv_at hl 0 rfl) ?_
    refine vp_callSi (W.runV (As := []) (rest := [.int x]) ⟨hx, hb, hml, hown, hz⟩ (f_MD_columns l dC dI h0 b0 b1 b2 b3 b4 b5 b6 b7 b8 b9 b10 b11 b12 b13 b14 b15 b16 b17 kb0 kb1 kb2 kb3 kb4 kb5 kb6 kb7 kb8 kb9 kb10 kb11 mg n _ rn ro sp gp fx _ (hm) (by omega) (hg) (hG) (hE)) (cwV 0 hz (z_gV wd_732 wd_701 wd_702 wd_37 wd_703) rfl rfl rfl (by decide +kernel) ⟨Nat.le_of_ble_eq_true rfl, Nat.le_of_ble_eq_true rfl⟩) (zr_preV hK (hP.sub [0, 1, 2, 3, 4, 5, 6, 7, 8, 9, 10, 11, 12] rfl) (va_recv (q0 := 0) hK hP (q := (RMD, TMD, 26)) rfl rfl) [0, 1, 2, 3, 4, 5, 6, 7, 8, 9, 10, 11] rfl z_true (fun _ _ _ => trivial)) rfl rfl hl.1 rfl (lv_room (Nat.le_of_ble_eq_true rfl)) dMD_edge_6 ⟨Nat.le_of_ble_eq_true rfl, Nat.le_of_ble_eq_true rfl⟩) (fun r3 h_r3 => ?_)
    have h_r3 : r3 = nI (zCo mm n) := h_r3
    subst h_r3
    have t4 := zCo_le hm n
    have t5 := nI_toInt (n := zCo mm n) (by omega)
    refine lv_icmp_ge (tgt := 24) hx hb dMD_edge_9 rfl (fun h6 => ?_) (fun h6 => ?_)
    · have h6 := z_le h6
      refine lv_iconst (v := (-1)) hx hb dMD_edge_24 (by decide) ?_
      subst hQ
      exact zp_iret hx hb hr hlocks (Or.inl ⟨by omega, rfl⟩) dMD_edge_25
    · have h6 := z_nle h6
      refine lv_iload_n hx hb dMD_edge_12 rfl (lv_at hl 2 rfl) ?_
      have t7 : (0 : Int32).toInt = 0 := by decide
      refine lv_if_lt (tgt := 24) hx hb dMD_edge_13 rfl (fun h8 => ?_) (fun h8 => ?_)
      · have h8 := z_lt h8
        refine lv_iconst (v := (-1)) hx hb dMD_edge_24 (by decide) ?_
        subst hQ
        exact zp_iret hx hb hr hlocks (Or.inl ⟨by omega, rfl⟩) dMD_edge_25
      · have h8 := z_nlt h8
        refine lv_iload_n hx hb dMD_edge_16 rfl (lv_at hl 2 rfl) ?_
        refine lv_aload_n hx hb dMD_edge_17 rfl (lv_at hl 0 rfl) ?_
        refine vp_callSi (W.runV (As := []) (rest := [.int y]) ⟨hx, hb, hml, hown, hz⟩ (f_MD_rows l dC dI h0 b0 b1 b2 b3 b4 b5 b6 b7 b8 b9 b10 b11 b12 b13 b14 b15 b16 b17 kb0 kb1 kb2 kb3 kb4 kb5 kb6 kb7 kb8 kb9 kb10 kb11 mg n _ rn ro sp gp fx _ (hm) (by omega) (hg) (hG) (hE)) (cwV 0 hz (z_gV wd_733 wd_705 wd_706 wd_37 wd_707) rfl rfl rfl (by decide +kernel) ⟨Nat.le_of_ble_eq_true rfl, Nat.le_of_ble_eq_true rfl⟩) (zr_preV hK (hP.sub [0, 1, 2, 3, 4, 5, 6, 7, 8, 9, 10, 11, 12] rfl) (va_recv (q0 := 0) hK hP (q := (RMD, TMD, 26)) rfl rfl) [0, 1, 2, 3, 4, 5, 6, 7, 8, 9, 10, 11] rfl z_true (fun _ _ _ => trivial)) rfl rfl hl.1 rfl (lv_room (Nat.le_of_ble_eq_true rfl)) dMD_edge_18 ⟨Nat.le_of_ble_eq_true rfl, Nat.le_of_ble_eq_true rfl⟩) (fun r9 h_r9 => ?_)
        have h_r9 : r9 = nI (zEn mm (mg - 1) n) := h_r9
        subst h_r9
        have t10 := zEn_le hm (mg - 1) n
        have t11 := nI_toInt (n := zEn mm (mg - 1) n) (by omega)
        refine lv_icmp_lt (tgt := 26) hx hb dMD_edge_21 rfl (fun h12 => ?_) (fun h12 => ?_)
        · have h12 := z_lt h12
          refine lv_aload_n hx hb dMD_edge_26 rfl (lv_at hl 0 rfl) ?_
          refine lv_iload_n hx hb dMD_edge_27 rfl (lv_at hl 1 rfl) ?_
          refine lv_iload_n hx hb dMD_edge_28 rfl (lv_at hl 2 rfl) ?_
          refine vp_callSi (W.runV (As := [.int x, .int y]) (rest := []) ⟨hx, hb, hml, hown, hz⟩ (f_MD_slot l dC dI h0 b0 b1 b2 b3 b4 b5 b6 b7 b8 b9 b10 b11 b12 b13 b14 b15 b16 b17 kb0 kb1 kb2 kb3 kb4 kb5 kb6 kb7 kb8 kb9 kb10 kb11 mg n _ rn ro sp gp fx _ x y (hm) (by omega) (hg) (hG) (hE)) (cwV 2 hz (z_gV wd_797 wd_709 wd_710 wd_37 wd_711) rfl rfl rfl (by decide +kernel) ⟨Nat.le_of_ble_eq_true rfl, Nat.le_of_ble_eq_true rfl⟩) (zr_preV hK (hP.sub [0, 1, 2, 3, 4, 5, 6, 7, 8, 9, 10, 11, 12] rfl) (va_recv (q0 := 0) hK hP (q := (RMD, TMD, 26)) rfl rfl) [0, 1, 2, 3, 4, 5, 6, 7, 8, 9, 10, 11] rfl z_true (fun _ _ _ => trivial)) rfl rfl hl.1 rfl (lv_room (Nat.le_of_ble_eq_true rfl)) dMD_edge_29 ⟨Nat.le_of_ble_eq_true rfl, Nat.le_of_ble_eq_true rfl⟩) (fun rc h_rc => ?_)
          have h_rc : zFst n (zMt mm n x y) rc := h_rc
          refine lv_istore hx hb dMD_edge_32 hl (Nat.le_of_ble_eq_true rfl) rfl (fun ls hl => ?_)
          have hl : lv_has ls 6 [(4, .int rc), (0, .ref h0), (1, .int x), (2, .int y), (3, .int f)] := hl
          refine z_join (fun v : Int32 => zFst n (zMt mm n (if f = 0 then x + nI 1 else x) (if f = 0 then y else y + nI 1)) v) (fun v => W p l e ({ frames := 4, cells := 0, slots := 0, locals := 92 }) s m [.ref h0, .int x, .int y, .int f].toArray below meth c s.heap [] 0 0 Q (F0 m 57 ls (.int v :: []))) (fun v hv => ?_) (fun J57 => ?_)
          · refine lv_istore hx hb dMD_edge_57 hl (Nat.le_of_ble_eq_true rfl) rfl (fun ls hl => ?_)
            have hl : lv_has ls 6 [(5, .int v), (4, .int rc), (0, .ref h0), (1, .int x), (2, .int y), (3, .int f)] := hl
            refine lv_iload hx hb dMD_edge_59 (lv_at hl 1 rfl) ?_
            refine lv_iload hx hb dMD_edge_61 (lv_at hl 0 rfl) ?_
            refine lv_icmp_ne (tgt := 70) hx hb dMD_edge_63 rfl (fun h_e => ?_) (fun h_e => ?_)
            · rcases zFst_or h_rc with rfl | ⟨k1, hk1, rfl⟩ <;> rcases zFst_or hv with rfl | ⟨k2, hk2, rfl⟩
              · exact absurd rfl h_e
              · refine lv_aload_n hx hb dMD_edge_70 rfl (lv_at hl 2 rfl) ?_
                refine lv_iload hx hb dMD_edge_71 (lv_at hl 1 rfl) ?_
                refine lv_iload hx hb dMD_edge_73 (lv_at hl 0 rfl) ?_
                refine vp_callSi (W.runV (As := [.int (-1), .int (nI k2)]) (rest := []) ⟨hx, hb, hml, hown, hz⟩ (f_MD_strongerA l dC dI h0 b0 b1 b2 b3 b4 b5 b6 b7 b8 b9 b10 b11 b12 b13 b14 b15 b16 b17 kb0 kb1 kb2 kb3 kb4 kb5 kb6 kb7 kb8 kb9 kb10 kb11 mg n _ rn ro sp gp fx _ k2 (hm) (by omega) (hg) (hG) (hE)) (cwV 2 hz (z_gV wd_798 wd_800 wd_27 wd_37 wd_801) rfl rfl rfl (by decide +kernel) ⟨Nat.le_of_ble_eq_true rfl, Nat.le_of_ble_eq_true rfl⟩) (zr_preV hK (hP.sub [0, 1, 2, 3, 4, 5, 6, 7, 8, 9, 10, 11, 12] rfl) (va_recv (q0 := 0) hK hP (q := (RMD, TMD, 26)) rfl rfl) [0, 1, 2, 3, 4, 5, 6, 7, 8, 9, 10, 11] rfl z_true (fun _ _ _ => trivial)) rfl rfl hl.1 rfl (lv_room (Nat.le_of_ble_eq_true rfl)) dMD_edge_75 ⟨Nat.le_of_ble_eq_true rfl, Nat.le_of_ble_eq_true rfl⟩) (fun rs h_rs => ?_)
                have h_rs : rs = nI k2 := h_rs
                subst h_rs
                subst hQ
                exact zp_iret hx hb hr hlocks (Or.inr ⟨by omega, (-1), nI k2, h_rc, hv, Or.inr (Or.inl ⟨h_e, fun h9 => by have := z_m1; omega, rfl⟩)⟩) dMD_edge_78
              · refine lv_aload_n hx hb dMD_edge_70 rfl (lv_at hl 2 rfl) ?_
                refine lv_iload hx hb dMD_edge_71 (lv_at hl 1 rfl) ?_
                refine lv_iload hx hb dMD_edge_73 (lv_at hl 0 rfl) ?_
                refine vp_callSi (W.runV (As := [.int (nI k1), .int (-1)]) (rest := []) ⟨hx, hb, hml, hown, hz⟩ (f_MD_strongerB l dC dI h0 b0 b1 b2 b3 b4 b5 b6 b7 b8 b9 b10 b11 b12 b13 b14 b15 b16 b17 kb0 kb1 kb2 kb3 kb4 kb5 kb6 kb7 kb8 kb9 kb10 kb11 mg n _ rn ro sp gp fx _ k1 (hm) (by omega) (hg) (hG) (hE) (by omega)) (cwV 2 hz (z_gV wd_798 wd_800 wd_27 wd_37 wd_801) rfl rfl rfl (by decide +kernel) ⟨Nat.le_of_ble_eq_true rfl, Nat.le_of_ble_eq_true rfl⟩) (zr_preV hK (hP.sub [0, 1, 2, 3, 4, 5, 6, 7, 8, 9, 10, 11, 12] rfl) (va_recv (q0 := 0) hK hP (q := (RMD, TMD, 26)) rfl rfl) [0, 1, 2, 3, 4, 5, 6, 7, 8, 9, 10, 11] rfl z_true (fun _ _ _ => trivial)) rfl rfl hl.1 rfl (lv_room (Nat.le_of_ble_eq_true rfl)) dMD_edge_75 ⟨Nat.le_of_ble_eq_true rfl, Nat.le_of_ble_eq_true rfl⟩) (fun rs h_rs => ?_)
                have h_rs : rs = nI k1 := h_rs
                subst h_rs
                subst hQ
                exact zp_iret hx hb hr hlocks (Or.inr ⟨by omega, nI k1, (-1), h_rc, hv, Or.inr (Or.inr (Or.inl ⟨h_e, by have := nI_toInt (n := k1) (by omega); omega, fun h9 => by have := z_m1; omega, rfl⟩))⟩) dMD_edge_78
              · refine lv_aload_n hx hb dMD_edge_70 rfl (lv_at hl 2 rfl) ?_
                refine lv_iload hx hb dMD_edge_71 (lv_at hl 1 rfl) ?_
                refine lv_iload hx hb dMD_edge_73 (lv_at hl 0 rfl) ?_
                refine vp_callSi (W.runV (As := [.int (nI k1), .int (nI k2)]) (rest := []) ⟨hx, hb, hml, hown, hz⟩ (f_MD_stronger l dC dI h0 b0 b1 b2 b3 b4 b5 b6 b7 b8 b9 b10 b11 b12 b13 b14 b15 b16 b17 kb0 kb1 kb2 kb3 kb4 kb5 kb6 kb7 kb8 kb9 kb10 kb11 mg n _ rn ro sp gp fx _ k1 k2 (hm) (by omega) (hg) (hG) (hE) (by omega) (by omega)) (cwV 2 hz (z_gV wd_798 wd_800 wd_27 wd_37 wd_801) rfl rfl rfl (by decide +kernel) ⟨Nat.le_of_ble_eq_true rfl, Nat.le_of_ble_eq_true rfl⟩) (zr_preV hK (hP.sub [0, 1, 2, 3, 4, 5, 6, 7, 8, 9, 10, 11, 12] rfl) (va_recv (q0 := 0) hK hP (q := (RMD, TMD, 26)) rfl rfl) [0, 1, 2, 3, 4, 5, 6, 7, 8, 9, 10, 11] rfl z_true (fun _ _ _ => trivial)) rfl rfl hl.1 rfl (lv_room (Nat.le_of_ble_eq_true rfl)) dMD_edge_75 ⟨Nat.le_of_ble_eq_true rfl, Nat.le_of_ble_eq_true rfl⟩) (fun rs h_rs => ?_)
                have h_rs : (zPv (mm 10 k2) (mm 11 k2) (mm 10 k1) (mm 11 k1) ∧ rs = nI k2) ∨ (¬ zPv (mm 10 k2) (mm 11 k2) (mm 10 k1) (mm 11 k1) ∧ rs = nI k1) := h_rs
                subst hQ
                exact zp_iret hx hb hr hlocks (Or.inr ⟨by omega, nI k1, nI k2, h_rc, hv, Or.inr (Or.inr (Or.inr ⟨h_e, k1, k2, hk1, hk2, rfl, rfl, h_rs⟩))⟩) dMD_edge_78
            · refine lv_iconst (v := (-1)) hx hb dMD_edge_66 (by decide) ?_
              refine lv_goto (tgt := 78) hx hb dMD_edge_67 rfl ?_
              subst hQ
              exact zp_iret hx hb hr hlocks (Or.inr ⟨by omega, rc, v, h_rc, hv, Or.inl ⟨h_e, rfl⟩⟩) dMD_edge_78
          · refine lv_iload_n hx hb dMD_edge_34 rfl (lv_at hl 4 rfl) ?_
            refine lv_if_eq (tgt := 49) hx hb dMD_edge_35 rfl (fun h_f => ?_) (fun h_f => ?_)
            · refine lv_aload_n hx hb dMD_edge_49 rfl (lv_at hl 1 rfl) ?_
              refine lv_iload_n hx hb dMD_edge_50 rfl (lv_at hl 2 rfl) ?_
              refine lv_iconst (v := nI 1) hx hb dMD_edge_51 (by decide) ?_
              refine lv_iadd hx hb dMD_edge_52 ?_
              refine lv_iload_n hx hb dMD_edge_53 rfl (lv_at hl 3 rfl) ?_
              refine vp_callSi (W.runV (As := [.int (x + (nI 1)), .int y]) (rest := []) ⟨hx, hb, hml, hown, hz⟩ (f_MD_slot l dC dI h0 b0 b1 b2 b3 b4 b5 b6 b7 b8 b9 b10 b11 b12 b13 b14 b15 b16 b17 kb0 kb1 kb2 kb3 kb4 kb5 kb6 kb7 kb8 kb9 kb10 kb11 mg n _ rn ro sp gp fx _ (x + (nI 1)) y (hm) (by omega) (hg) (hG) (hE)) (cwV 2 hz (z_gV wd_797 wd_709 wd_710 wd_37 wd_711) rfl rfl rfl (by decide +kernel) ⟨Nat.le_of_ble_eq_true rfl, Nat.le_of_ble_eq_true rfl⟩) (zr_preV hK (hP.sub [0, 1, 2, 3, 4, 5, 6, 7, 8, 9, 10, 11, 12] rfl) (va_recv (q0 := 0) hK hP (q := (RMD, TMD, 26)) rfl rfl) [0, 1, 2, 3, 4, 5, 6, 7, 8, 9, 10, 11] rfl z_true (fun _ _ _ => trivial)) rfl rfl hl.1 rfl (lv_room (Nat.le_of_ble_eq_true rfl)) dMD_edge_54 ⟨Nat.le_of_ble_eq_true rfl, Nat.le_of_ble_eq_true rfl⟩) (fun r2 h_r2 => ?_)
              have h_r2 : zFst n (zMt mm n (x + (nI 1)) y) r2 := h_r2
              exact J57 _ (by rw [if_pos h_f, if_pos h_f]; exact h_r2)
            · refine lv_aload_n hx hb dMD_edge_38 rfl (lv_at hl 1 rfl) ?_
              refine lv_iload_n hx hb dMD_edge_39 rfl (lv_at hl 2 rfl) ?_
              refine lv_iload_n hx hb dMD_edge_40 rfl (lv_at hl 3 rfl) ?_
              refine lv_iconst (v := nI 1) hx hb dMD_edge_41 (by decide) ?_
              refine lv_iadd hx hb dMD_edge_42 ?_
              refine vp_callSi (W.runV (As := [.int x, .int (y + (nI 1))]) (rest := []) ⟨hx, hb, hml, hown, hz⟩ (f_MD_slot l dC dI h0 b0 b1 b2 b3 b4 b5 b6 b7 b8 b9 b10 b11 b12 b13 b14 b15 b16 b17 kb0 kb1 kb2 kb3 kb4 kb5 kb6 kb7 kb8 kb9 kb10 kb11 mg n _ rn ro sp gp fx _ x (y + (nI 1)) (hm) (by omega) (hg) (hG) (hE)) (cwV 2 hz (z_gV wd_797 wd_709 wd_710 wd_37 wd_711) rfl rfl rfl (by decide +kernel) ⟨Nat.le_of_ble_eq_true rfl, Nat.le_of_ble_eq_true rfl⟩) (zr_preV hK (hP.sub [0, 1, 2, 3, 4, 5, 6, 7, 8, 9, 10, 11, 12] rfl) (va_recv (q0 := 0) hK hP (q := (RMD, TMD, 26)) rfl rfl) [0, 1, 2, 3, 4, 5, 6, 7, 8, 9, 10, 11] rfl z_true (fun _ _ _ => trivial)) rfl rfl hl.1 rfl (lv_room (Nat.le_of_ble_eq_true rfl)) dMD_edge_43 ⟨Nat.le_of_ble_eq_true rfl, Nat.le_of_ble_eq_true rfl⟩) (fun r3 h_r3 => ?_)
              have h_r3 : zFst n (zMt mm n x (y + (nI 1))) r3 := h_r3
              refine lv_goto (tgt := 57) hx hb dMD_edge_46 rfl ?_
              exact J57 _ (by rw [if_neg h_f, if_neg h_f]; exact h_r3)
        · have h12 := z_nlt h12
          refine lv_iconst (v := (-1)) hx hb dMD_edge_24 (by decide) ?_
          subst hQ
          exact zp_iret hx hb hr hlocks (Or.inl ⟨by omega, rfl⟩) dMD_edge_25
end
section
set_option maxHeartbeats 4000000 in
set_option maxRecDepth 100000 in
theorem f_MD_group (l : Launch) (dC : Nat → ClassId) (dI : Nat → Nat → Nat) (h0 : Nat) (b0 : Nat) (b1 : Nat) (b2 : Nat) (b3 : Nat) (b4 : Nat) (b5 : Nat) (b6 : Nat) (b7 : Nat) (b8 : Nat) (b9 : Nat) (b10 : Nat) (b11 : Nat) (b12 : Nat) (b13 : Nat) (b14 : Nat) (b15 : Nat) (b16 : Nat) (b17 : Nat) (kb0 : ClassId) (kb1 : ClassId) (kb2 : ClassId) (kb3 : ClassId) (kb4 : ClassId) (kb5 : ClassId) (kb6 : ClassId) (kb7 : ClassId) (kb8 : ClassId) (kb9 : ClassId) (kb10 : ClassId) (kb11 : ClassId) (mg : Nat) (n : Nat) (rg : Nat) (rn : Nat) (ro : Nat) (sp : Nat) (gp : Nat) (fx : Nat) (mm : Nat → Nat → Nat) (hm : ∀ a k, mm a k ≤ 1000) (hn : n ≤ 40) (hg : 1 ≤ mg ∧ mg ≤ 8 ∧ rg ≤ 8 ∧ rn ≤ 1000 ∧ ro ≤ 1000) (hG : ∀ k, k < n → mm 6 k < 8) (hE : ∀ k, k < n → mm 3 k ≤ zEn mm (mm 6 k) n) : zw_Mi (S := (Nat) × (Nat → Nat → Nat)) l yMD_group wMD_group ({ frames := 1, cells := 0, slots := 0, locals := 24 }) [.ref h0] (dC, dI) vwCl [(h0, .inr (6, [.int (nI mg), .ref b0, .ref b1, .int (nI n), .ref b2, .ref b3, .ref b4, .ref b5, .ref b6, .ref b7, .ref b8, .ref b9, .ref b10, .ref b11, .int (nI rg - nI 1), .int (nI rn), .int (nI ro), .int (nI sp), .int (nI gp), .int (nI fx), .ref b12, .ref b13, .ref b14, .ref b15, .ref b16, .ref b17])), (b0, .inl (kb0, 8, .inl (fun j => nI (mm 0 j)))), (b1, .inl (kb1, 8, .inl (fun j => nI (mm 1 j)))), (b2, .inl (kb2, 40, .inl (fun j => nI (mm 2 j)))), (b3, .inl (kb3, 40, .inl (fun j => nI (mm 3 j)))), (b4, .inl (kb4, 40, .inl (fun j => nI (mm 4 j)))), (b5, .inl (kb5, 40, .inl (fun j => nI (mm 5 j)))), (b6, .inl (kb6, 40, .inl (fun j => nI (mm 6 j)))), (b7, .inl (kb7, 40, .inl (fun j => nI (mm 7 j)))), (b8, .inl (kb8, 40, .inl (fun j => nI (mm 8 j)))), (b9, .inl (kb9, 40, .inl (fun j => nI (mm 9 j)))), (b10, .inl (kb10, 40, .inl (fun j => nI (mm 10 j)))), (b11, .inl (kb11, 40, .inl (fun j => nI (mm 11 j))))] [(kb0, .int), (kb1, .int), (kb2, .int), (kb3, .int), (kb4, .int), (kb5, .int), (kb6, .int), (kb7, .int), (kb8, .int), (kb9, .int), (kb10, .int), (kb11, .int)] (fun _ _ => True) (fun r u => match u with | (mg2, m2) => (mg = 8 ∧ r = -1 ∧ mg2 = mg ∧ m2 = mm) ∨ (¬ mg = 8 ∧ r = nI (mg + 1) ∧ mg2 = mg + 1 ∧ m2 = zmGr mm n mg)) (fun u => match u with | (mg2, m2) => [(h0, .inr (6, [.int (nI mg2), .ref b0, .ref b1, .int (nI n), .ref b2, .ref b3, .ref b4, .ref b5, .ref b6, .ref b7, .ref b8, .ref b9, .ref b10, .ref b11, .int (nI rg - nI 1), .int (nI rn), .int (nI ro), .int (nI sp), .int (nI gp), .int (nI fx), .ref b12, .ref b13, .ref b14, .ref b15, .ref b16, .ref b17])), (b0, .inl (kb0, 8, .inl (fun j => nI (m2 0 j)))), (b1, .inl (kb1, 8, .inl (fun j => nI (m2 1 j)))), (b2, .inl (kb2, 40, .inl (fun j => nI (m2 2 j)))), (b3, .inl (kb3, 40, .inl (fun j => nI (m2 3 j)))), (b4, .inl (kb4, 40, .inl (fun j => nI (m2 4 j)))), (b5, .inl (kb5, 40, .inl (fun j => nI (m2 5 j)))), (b6, .inl (kb6, 40, .inl (fun j => nI (m2 6 j)))), (b7, .inl (kb7, 40, .inl (fun j => nI (m2 7 j)))), (b8, .inl (kb8, 40, .inl (fun j => nI (m2 8 j)))), (b9, .inl (kb9, 40, .inl (fun j => nI (m2 9 j)))), (b10, .inl (kb10, 40, .inl (fun j => nI (m2 10 j)))), (b11, .inl (kb11, 40, .inl (fun j => nI (m2 11 j))))]) (fun u => match u with | (mg2, m2) => []) 0 0 := by
  refine zw_headi (cc := cMD_group) (maxL := 1) (ret := (some .int)) (by decide +kernel) rfl (Nat.le_of_ble_eq_true rfl) ?_
  intro p e s m below meth c ls A F hA hP hK hD hS hX hl
  obtain ⟨hx, hb, hml, hr, hlocks, hown, hts⟩ := F
  have hown : s.vm.findClass "SpannedCellsModel" = some m.cls := hown
  have hz : ∀ w9 ∈ zT, w9.before [.ref h0].toArray s = true := fun w9 h => hts w9 (List.mem_cons_of_mem _ h)
  have hl : lv_has ls 1 [(0, .ref h0)] := hl
  refine z_q (fun Q hQ => ?_)
  refine lv_aload_n hx hb dMD_group_0 rfl (lv_at hl 0 rfl) ?_
  refine va_get (D := (dC, dI)) (ci := 6) (v := .int (nI mg)) (C := RMD) (T := TMD) (N := 26) hx hb hz in_MD hown hK hP 0 rfl rfl 0 (by decide) (hz _ wd_584) (fun _ h9 => h9) rfl dMD_group_1 ?_
  refine lv_bipush (v := nI 8) hx hb dMD_group_4 (by decide) ?_
  have t1 := nI_toInt (n := mg) (by omega)
  have t2 := nI_toInt (n := 8) (by omega)
  refine lv_icmp_ne (tgt := 11) hx hb dMD_group_6 rfl (fun h1 => ?_) (fun h1 => ?_)
  · have h1 := z_ne h1
    refine lv_aload_n hx hb dMD_group_11 rfl (lv_at hl 0 rfl) ?_
    refine va_get (D := (dC, dI)) (ci := 6) (v := .ref b0) (C := RMD) (T := TMD) (N := 26) hx hb hz in_MD hown hK hP 0 rfl rfl 1 (by decide) (hz _ wd_585) (fun _ h9 => h9) rfl dMD_group_12 ?_
    refine lv_aload_n hx hb dMD_group_15 rfl (lv_at hl 0 rfl) ?_
    refine va_get (D := (dC, dI)) (ci := 6) (v := .int (nI mg)) (C := RMD) (T := TMD) (N := 26) hx hb hz in_MD hown hK hP 0 rfl rfl 0 (by decide) (hz _ wd_584) (fun _ h9 => h9) rfl dMD_group_16 ?_
    refine lv_aload_n hx hb dMD_group_19 rfl (lv_at hl 0 rfl) ?_
    refine lv_aload_n hx hb dMD_group_20 rfl (lv_at hl 0 rfl) ?_
    refine va_get (D := (dC, dI)) (ci := 6) (v := .int (nI mg)) (C := RMD) (T := TMD) (N := 26) hx hb hz in_MD hown hK hP 0 rfl rfl 0 (by decide) (hz _ wd_584) (fun _ h9 => h9) rfl dMD_group_21 ?_
    refine lv_iconst (v := nI 1) hx hb dMD_group_24 (by decide) ?_
    refine lv_isub hx hb dMD_group_25 ?_
    refine lv_topi (fun x4 e5 => ?_)
    have e5 : x4 = nI (mg - 1) := e5.trans (pk_sub (by omega))
    subst e5
    refine vp_callSi (W.runV (As := [.int (nI (mg - 1))]) (rest := [.int (nI mg), .ref b0]) ⟨hx, hb, hml, hown, hz⟩ (f_MD_endOf l dC dI h0 b0 b1 b2 b3 b4 b5 b6 b7 b8 b9 b10 b11 b12 b13 b14 b15 b16 b17 kb0 kb1 kb2 kb3 kb4 kb5 kb6 kb7 kb8 kb9 kb10 kb11 mg n _ rn ro sp gp fx _ (mg - 1) (hm) (by omega) (hg) (hG) (hE) (by omega)) (cwV 1 hz (z_gV wd_668 wd_670 wd_13 wd_37 wd_671) rfl rfl rfl (by decide +kernel) ⟨Nat.le_of_ble_eq_true rfl, Nat.le_of_ble_eq_true rfl⟩) (zr_preV hK (hP.sub [0, 1, 2, 3, 4, 5, 6, 7, 8, 9, 10, 11, 12] rfl) (va_recv (q0 := 0) hK hP (q := (RMD, TMD, 26)) rfl rfl) [0, 1, 2, 3, 4, 5, 6, 7, 8, 9, 10, 11] rfl z_true (fun _ _ _ => trivial)) rfl rfl hl.1 rfl (lv_room (Nat.le_of_ble_eq_true rfl)) dMD_group_26 ⟨Nat.le_of_ble_eq_true rfl, Nat.le_of_ble_eq_true rfl⟩) (fun r6 h_r6 => ?_)
    have h_r6 : r6 = nI (zEn mm (mg - 1) n) := h_r6
    subst h_r6
    refine va_iast hx hb hK hP hD hS 1 0 rfl rfl (vp_in_nI (by omega) (by omega)) dMD_group_29 (fun H locs hP hD hS => ?_)
    have e_u := z_upd (f := mm 0) (k := mg) (v := zEn mm (mg - 1) n) (by omega)
    have hP : va_P (dC, dI) vwCl [(h0, .inr (6, [.int (nI mg), .ref b0, .ref b1, .int (nI n), .ref b2, .ref b3, .ref b4, .ref b5, .ref b6, .ref b7, .ref b8, .ref b9, .ref b10, .ref b11, .int (nI rg - nI 1), .int (nI rn), .int (nI ro), .int (nI sp), .int (nI gp), .int (nI fx), .ref b12, .ref b13, .ref b14, .ref b15, .ref b16, .ref b17])), (b0, .inl (kb0, 8, .inl (fun j => nI (va_up (mm 0) mg (zEn mm (mg - 1) n) j)))), (b1, .inl (kb1, 8, .inl (fun j => nI (mm 1 j)))), (b2, .inl (kb2, 40, .inl (fun j => nI (mm 2 j)))), (b3, .inl (kb3, 40, .inl (fun j => nI (mm 3 j)))), (b4, .inl (kb4, 40, .inl (fun j => nI (mm 4 j)))), (b5, .inl (kb5, 40, .inl (fun j => nI (mm 5 j)))), (b6, .inl (kb6, 40, .inl (fun j => nI (mm 6 j)))), (b7, .inl (kb7, 40, .inl (fun j => nI (mm 7 j)))), (b8, .inl (kb8, 40, .inl (fun j => nI (mm 8 j)))), (b9, .inl (kb9, 40, .inl (fun j => nI (mm 9 j)))), (b10, .inl (kb10, 40, .inl (fun j => nI (mm 10 j)))), (b11, .inl (kb11, 40, .inl (fun j => nI (mm 11 j))))] H := by rw [← e_u]; exact hP
    have hD : va_D A [(h0, .inr (6, [.int (nI mg), .ref b0, .ref b1, .int (nI n), .ref b2, .ref b3, .ref b4, .ref b5, .ref b6, .ref b7, .ref b8, .ref b9, .ref b10, .ref b11, .int (nI rg - nI 1), .int (nI rn), .int (nI ro), .int (nI sp), .int (nI gp), .int (nI fx), .ref b12, .ref b13, .ref b14, .ref b15, .ref b16, .ref b17])), (b0, .inl (kb0, 8, .inl (fun j => nI (va_up (mm 0) mg (zEn mm (mg - 1) n) j)))), (b1, .inl (kb1, 8, .inl (fun j => nI (mm 1 j)))), (b2, .inl (kb2, 40, .inl (fun j => nI (mm 2 j)))), (b3, .inl (kb3, 40, .inl (fun j => nI (mm 3 j)))), (b4, .inl (kb4, 40, .inl (fun j => nI (mm 4 j)))), (b5, .inl (kb5, 40, .inl (fun j => nI (mm 5 j)))), (b6, .inl (kb6, 40, .inl (fun j => nI (mm 6 j)))), (b7, .inl (kb7, 40, .inl (fun j => nI (mm 7 j)))), (b8, .inl (kb8, 40, .inl (fun j => nI (mm 8 j)))), (b9, .inl (kb9, 40, .inl (fun j => nI (mm 9 j)))), (b10, .inl (kb10, 40, .inl (fun j => nI (mm 10 j)))), (b11, .inl (kb11, 40, .inl (fun j => nI (mm 11 j))))] := by rw [← e_u]; exact hD
    refine lv_aload_n hx hb dMD_group_30 rfl (lv_at hl 0 rfl) ?_
    refine va_get (D := (dC, dI)) (ci := 6) (v := .ref b1) (C := RMD) (T := TMD) (N := 26) hx hb hz in_MD hown hK hP 0 rfl rfl 2 (by decide) (hz _ wd_586) (fun _ h9 => h9) rfl dMD_group_31 ?_
    refine lv_aload_n hx hb dMD_group_34 rfl (lv_at hl 0 rfl) ?_
    refine va_get (D := (dC, dI)) (ci := 6) (v := .int (nI mg)) (C := RMD) (T := TMD) (N := 26) hx hb hz in_MD hown hK hP 0 rfl rfl 0 (by decide) (hz _ wd_584) (fun _ h9 => h9) rfl dMD_group_35 ?_
    refine lv_iconst (v := nI 0) hx hb dMD_group_38 (by decide) ?_
    refine va_iast hx hb hK hP hD hS 2 1 rfl rfl (vp_in_nI (by omega) (by omega)) dMD_group_39 (fun H locs hP hD hS => ?_)
    have e_u := z_upd (f := mm 1) (k := mg) (v := 0) (by omega)
    have hP : va_P (dC, dI) vwCl [(h0, .inr (6, [.int (nI mg), .ref b0, .ref b1, .int (nI n), .ref b2, .ref b3, .ref b4, .ref b5, .ref b6, .ref b7, .ref b8, .ref b9, .ref b10, .ref b11, .int (nI rg - nI 1), .int (nI rn), .int (nI ro), .int (nI sp), .int (nI gp), .int (nI fx), .ref b12, .ref b13, .ref b14, .ref b15, .ref b16, .ref b17])), (b0, .inl (kb0, 8, .inl (fun j => nI (va_up (mm 0) mg (zEn mm (mg - 1) n) j)))), (b1, .inl (kb1, 8, .inl (fun j => nI (va_up (mm 1) mg 0 j)))), (b2, .inl (kb2, 40, .inl (fun j => nI (mm 2 j)))), (b3, .inl (kb3, 40, .inl (fun j => nI (mm 3 j)))), (b4, .inl (kb4, 40, .inl (fun j => nI (mm 4 j)))), (b5, .inl (kb5, 40, .inl (fun j => nI (mm 5 j)))), (b6, .inl (kb6, 40, .inl (fun j => nI (mm 6 j)))), (b7, .inl (kb7, 40, .inl (fun j => nI (mm 7 j)))), (b8, .inl (kb8, 40, .inl (fun j => nI (mm 8 j)))), (b9, .inl (kb9, 40, .inl (fun j => nI (mm 9 j)))), (b10, .inl (kb10, 40, .inl (fun j => nI (mm 10 j)))), (b11, .inl (kb11, 40, .inl (fun j => nI (mm 11 j))))] H := by rw [← e_u]; exact hP
    have hD : va_D A [(h0, .inr (6, [.int (nI mg), .ref b0, .ref b1, .int (nI n), .ref b2, .ref b3, .ref b4, .ref b5, .ref b6, .ref b7, .ref b8, .ref b9, .ref b10, .ref b11, .int (nI rg - nI 1), .int (nI rn), .int (nI ro), .int (nI sp), .int (nI gp), .int (nI fx), .ref b12, .ref b13, .ref b14, .ref b15, .ref b16, .ref b17])), (b0, .inl (kb0, 8, .inl (fun j => nI (va_up (mm 0) mg (zEn mm (mg - 1) n) j)))), (b1, .inl (kb1, 8, .inl (fun j => nI (va_up (mm 1) mg 0 j)))), (b2, .inl (kb2, 40, .inl (fun j => nI (mm 2 j)))), (b3, .inl (kb3, 40, .inl (fun j => nI (mm 3 j)))), (b4, .inl (kb4, 40, .inl (fun j => nI (mm 4 j)))), (b5, .inl (kb5, 40, .inl (fun j => nI (mm 5 j)))), (b6, .inl (kb6, 40, .inl (fun j => nI (mm 6 j)))), (b7, .inl (kb7, 40, .inl (fun j => nI (mm 7 j)))), (b8, .inl (kb8, 40, .inl (fun j => nI (mm 8 j)))), (b9, .inl (kb9, 40, .inl (fun j => nI (mm 9 j)))), (b10, .inl (kb10, 40, .inl (fun j => nI (mm 10 j)))), (b11, .inl (kb11, 40, .inl (fun j => nI (mm 11 j))))] := by rw [← e_u]; exact hD
    refine lv_aload_n hx hb dMD_group_40 rfl (lv_at hl 0 rfl) ?_
    refine lv_aload_n hx hb dMD_group_41 rfl (lv_at hl 0 rfl) ?_
    refine va_get (D := (dC, dI)) (ci := 6) (v := .int (nI mg)) (C := RMD) (T := TMD) (N := 26) hx hb hz in_MD hown hK hP 0 rfl rfl 0 (by decide) (hz _ wd_584) (fun _ h9 => h9) rfl dMD_group_42 ?_
    refine lv_iconst (v := nI 1) hx hb dMD_group_45 (by decide) ?_
    refine lv_iadd hx hb dMD_group_46 ?_
    refine lv_topi (fun x7 e8 => ?_)
    have e8 : x7 = nI (mg + 1) := e8.trans (nI_add _ _)
    subst e8
    refine va_put (D := (dC, dI)) (ci := 6) (v := .int (nI (mg + 1))) (ty := .int) (C := RMD) (T := TMD) (N := 26) hx hb hz in_MD tyMD tokMD nokMD hown hK hP hD hS 0 rfl rfl 0 (by decide) (hz _ wd_584) (fun _ h9 => h9) rfl (by decide +kernel) rfl rfl (Nat.le_of_ble_eq_true rfl) dMD_group_47 (fun H locs hP hD hS => ?_)
    have hP : va_P (dC, dI) vwCl [(h0, .inr (6, [.int (nI (mg + 1)), .ref b0, .ref b1, .int (nI n), .ref b2, .ref b3, .ref b4, .ref b5, .ref b6, .ref b7, .ref b8, .ref b9, .ref b10, .ref b11, .int (nI rg - nI 1), .int (nI rn), .int (nI ro), .int (nI sp), .int (nI gp), .int (nI fx), .ref b12, .ref b13, .ref b14, .ref b15, .ref b16, .ref b17])), (b0, .inl (kb0, 8, .inl (fun j => nI (va_up (mm 0) mg (zEn mm (mg - 1) n) j)))), (b1, .inl (kb1, 8, .inl (fun j => nI (va_up (mm 1) mg 0 j)))), (b2, .inl (kb2, 40, .inl (fun j => nI (mm 2 j)))), (b3, .inl (kb3, 40, .inl (fun j => nI (mm 3 j)))), (b4, .inl (kb4, 40, .inl (fun j => nI (mm 4 j)))), (b5, .inl (kb5, 40, .inl (fun j => nI (mm 5 j)))), (b6, .inl (kb6, 40, .inl (fun j => nI (mm 6 j)))), (b7, .inl (kb7, 40, .inl (fun j => nI (mm 7 j)))), (b8, .inl (kb8, 40, .inl (fun j => nI (mm 8 j)))), (b9, .inl (kb9, 40, .inl (fun j => nI (mm 9 j)))), (b10, .inl (kb10, 40, .inl (fun j => nI (mm 10 j)))), (b11, .inl (kb11, 40, .inl (fun j => nI (mm 11 j))))] H := hP
    have hD : va_D A [(h0, .inr (6, [.int (nI (mg + 1)), .ref b0, .ref b1, .int (nI n), .ref b2, .ref b3, .ref b4, .ref b5, .ref b6, .ref b7, .ref b8, .ref b9, .ref b10, .ref b11, .int (nI rg - nI 1), .int (nI rn), .int (nI ro), .int (nI sp), .int (nI gp), .int (nI fx), .ref b12, .ref b13, .ref b14, .ref b15, .ref b16, .ref b17])), (b0, .inl (kb0, 8, .inl (fun j => nI (va_up (mm 0) mg (zEn mm (mg - 1) n) j)))), (b1, .inl (kb1, 8, .inl (fun j => nI (va_up (mm 1) mg 0 j)))), (b2, .inl (kb2, 40, .inl (fun j => nI (mm 2 j)))), (b3, .inl (kb3, 40, .inl (fun j => nI (mm 3 j)))), (b4, .inl (kb4, 40, .inl (fun j => nI (mm 4 j)))), (b5, .inl (kb5, 40, .inl (fun j => nI (mm 5 j)))), (b6, .inl (kb6, 40, .inl (fun j => nI (mm 6 j)))), (b7, .inl (kb7, 40, .inl (fun j => nI (mm 7 j)))), (b8, .inl (kb8, 40, .inl (fun j => nI (mm 8 j)))), (b9, .inl (kb9, 40, .inl (fun j => nI (mm 9 j)))), (b10, .inl (kb10, 40, .inl (fun j => nI (mm 10 j)))), (b11, .inl (kb11, 40, .inl (fun j => nI (mm 11 j))))] := hD
    refine lv_aload_n hx hb dMD_group_50 rfl (lv_at hl 0 rfl) ?_
    refine va_get (D := (dC, dI)) (ci := 6) (v := .int (nI (mg + 1))) (C := RMD) (T := TMD) (N := 26) hx hb hz in_MD hown hK hP 0 rfl rfl 0 (by decide) (hz _ wd_584) (fun _ h9 => h9) rfl dMD_group_51 ?_
    subst hQ
    exact zw_iret (D := (dC, dI)) (cl := vwCl) (A := A) (mg + 1, zmGr mm n mg) hx hb hr hlocks (Or.inr ⟨by omega, rfl, rfl, rfl⟩) (hP.sub [0, 1, 2, 3, 4, 5, 6, 7, 8, 9, 10, 11, 12] rfl) (hK.sub [] rfl) (hD.sub [0, 1, 2, 3, 4, 5, 6, 7, 8, 9, 10, 11, 12] (by decide) rfl) hS dMD_group_54
  · have h1 := z_eq h1
    refine lv_iconst (v := (-1)) hx hb dMD_group_9 (by decide) ?_
    subst hQ
    exact zw_iret (D := (dC, dI)) (cl := vwCl) (A := A) (mg, mm) hx hb hr hlocks (Or.inl ⟨by omega, rfl, rfl, rfl⟩) (hP.sub [0, 1, 2, 3, 4, 5, 6, 7, 8, 9, 10, 11, 12] rfl) (hK.sub [] rfl) (hD.sub [0, 1, 2, 3, 4, 5, 6, 7, 8, 9, 10, 11, 12] (by decide) rfl) hS dMD_group_10

set_option maxHeartbeats 4000000 in
set_option maxRecDepth 100000 in
theorem f_MD_row (l : Launch) (dC : Nat → ClassId) (dI : Nat → Nat → Nat) (h0 : Nat) (b0 : Nat) (b1 : Nat) (b2 : Nat) (b3 : Nat) (b4 : Nat) (b5 : Nat) (b6 : Nat) (b7 : Nat) (b8 : Nat) (b9 : Nat) (b10 : Nat) (b11 : Nat) (b12 : Nat) (b13 : Nat) (b14 : Nat) (b15 : Nat) (b16 : Nat) (b17 : Nat) (kb0 : ClassId) (kb1 : ClassId) (kb2 : ClassId) (kb3 : ClassId) (kb4 : ClassId) (kb5 : ClassId) (kb6 : ClassId) (kb7 : ClassId) (kb8 : ClassId) (kb9 : ClassId) (kb10 : ClassId) (kb11 : ClassId) (mg : Nat) (n : Nat) (rg : Nat) (rn : Nat) (ro : Nat) (sp : Nat) (gp : Nat) (fx : Nat) (mm : Nat → Nat → Nat) (hm : ∀ a k, mm a k ≤ 1000) (hn : n ≤ 40) (hg : 1 ≤ mg ∧ mg ≤ 8 ∧ rg ≤ 8 ∧ rn ≤ 1000 ∧ ro ≤ 1000) (hG : ∀ k, k < n → mm 6 k < 8) (hE : ∀ k, k < n → mm 3 k ≤ zEn mm (mm 6 k) n) : zw_Mi (S := (Nat) × (Nat) × (Nat) × (Nat → Nat → Nat)) l yMD_row wMD_row ({ frames := 0, cells := 0, slots := 0, locals := 0 }) [.ref h0] (dC, dI) vwCl [(h0, .inr (6, [.int (nI mg), .ref b0, .ref b1, .int (nI n), .ref b2, .ref b3, .ref b4, .ref b5, .ref b6, .ref b7, .ref b8, .ref b9, .ref b10, .ref b11, .int (nI rg - nI 1), .int (nI rn), .int (nI ro), .int (nI sp), .int (nI gp), .int (nI fx), .ref b12, .ref b13, .ref b14, .ref b15, .ref b16, .ref b17])), (b0, .inl (kb0, 8, .inl (fun j => nI (mm 0 j)))), (b1, .inl (kb1, 8, .inl (fun j => nI (mm 1 j)))), (b2, .inl (kb2, 40, .inl (fun j => nI (mm 2 j)))), (b3, .inl (kb3, 40, .inl (fun j => nI (mm 3 j)))), (b4, .inl (kb4, 40, .inl (fun j => nI (mm 4 j)))), (b5, .inl (kb5, 40, .inl (fun j => nI (mm 5 j)))), (b6, .inl (kb6, 40, .inl (fun j => nI (mm 6 j)))), (b7, .inl (kb7, 40, .inl (fun j => nI (mm 7 j)))), (b8, .inl (kb8, 40, .inl (fun j => nI (mm 8 j)))), (b9, .inl (kb9, 40, .inl (fun j => nI (mm 9 j)))), (b10, .inl (kb10, 40, .inl (fun j => nI (mm 10 j)))), (b11, .inl (kb11, 40, .inl (fun j => nI (mm 11 j))))] [(kb0, .int), (kb1, .int), (kb2, .int), (kb3, .int), (kb4, .int), (kb5, .int), (kb6, .int), (kb7, .int), (kb8, .int), (kb9, .int), (kb10, .int), (kb11, .int)] (fun _ _ => True) (fun r u => match u with | (rg2, rn2, ro2, m2) => (11 < mm 0 (mg - 1) + mm 1 (mg - 1) ∧ r = -1 ∧ rg2 = rg ∧ rn2 = rn ∧ ro2 = ro ∧ m2 = mm) ∨ (¬ 11 < mm 0 (mg - 1) + mm 1 (mg - 1) ∧ r = nI (mm 0 (mg - 1) + mm 1 (mg - 1)) ∧ rg2 = mg ∧ rn2 = mm 0 (mg - 1) + mm 1 (mg - 1) ∧ ro2 = 0 ∧ m2 = zmRw mm mg)) (fun u => match u with | (rg2, rn2, ro2, m2) => [(h0, .inr (6, [.int (nI mg), .ref b0, .ref b1, .int (nI n), .ref b2, .ref b3, .ref b4, .ref b5, .ref b6, .ref b7, .ref b8, .ref b9, .ref b10, .ref b11, .int (nI rg2 - nI 1), .int (nI rn2), .int (nI ro2), .int (nI sp), .int (nI gp), .int (nI fx), .ref b12, .ref b13, .ref b14, .ref b15, .ref b16, .ref b17])), (b0, .inl (kb0, 8, .inl (fun j => nI (m2 0 j)))), (b1, .inl (kb1, 8, .inl (fun j => nI (m2 1 j)))), (b2, .inl (kb2, 40, .inl (fun j => nI (m2 2 j)))), (b3, .inl (kb3, 40, .inl (fun j => nI (m2 3 j)))), (b4, .inl (kb4, 40, .inl (fun j => nI (m2 4 j)))), (b5, .inl (kb5, 40, .inl (fun j => nI (m2 5 j)))), (b6, .inl (kb6, 40, .inl (fun j => nI (m2 6 j)))), (b7, .inl (kb7, 40, .inl (fun j => nI (m2 7 j)))), (b8, .inl (kb8, 40, .inl (fun j => nI (m2 8 j)))), (b9, .inl (kb9, 40, .inl (fun j => nI (m2 9 j)))), (b10, .inl (kb10, 40, .inl (fun j => nI (m2 10 j)))), (b11, .inl (kb11, 40, .inl (fun j => nI (m2 11 j))))]) (fun u => match u with | (rg2, rn2, ro2, m2) => []) 0 0 := by
  refine zw_headi (cc := cMD_row) (maxL := 3) (ret := (some .int)) (by decide +kernel) rfl (Nat.le_of_ble_eq_true rfl) ?_
  intro p e s m below meth c ls A F hA hP hK hD hS hX hl
  obtain ⟨hx, hb, hml, hr, hlocks, hown, hts⟩ := F
  have hown : s.vm.findClass "SpannedCellsModel" = some m.cls := hown
  have hz : ∀ w9 ∈ zT, w9.before [.ref h0].toArray s = true := fun w9 h => hts w9 (List.mem_cons_of_mem _ h)
  have hl : lv_has ls 3 [(0, .ref h0)] := hl
  refine z_q (fun Q hQ => ?_)
  refine lv_aload_n hx hb dMD_row_0 rfl (lv_at hl 0 rfl) ?_
  refine va_get (D := (dC, dI)) (ci := 6) (v := .int (nI mg)) (C := RMD) (T := TMD) (N := 26) hx hb hz in_MD hown hK hP 0 rfl rfl 0 (by decide) (hz _ wd_584) (fun _ h9 => h9) rfl dMD_row_1 ?_
  refine lv_iconst (v := nI 1) hx hb dMD_row_4 (by decide) ?_
  refine lv_isub hx hb dMD_row_5 ?_
  refine lv_topi (fun x1 e2 => ?_)
  have e2 : x1 = nI (mg - 1) := e2.trans (pk_sub (by omega))
  subst e2
  refine lv_istore_n hx hb dMD_row_6 rfl hl (Nat.le_of_ble_eq_true rfl) rfl (fun ls hl => ?_)
  have hl : lv_has ls 3 [(1, .int (nI (mg - 1))), (0, .ref h0)] := hl
  refine lv_aload_n hx hb dMD_row_7 rfl (lv_at hl 1 rfl) ?_
  refine va_get (D := (dC, dI)) (ci := 6) (v := .ref b0) (C := RMD) (T := TMD) (N := 26) hx hb hz in_MD hown hK hP 0 rfl rfl 1 (by decide) (hz _ wd_585) (fun _ h9 => h9) rfl dMD_row_8 ?_
  refine lv_iload_n hx hb dMD_row_11 rfl (lv_at hl 0 rfl) ?_
  refine va_iald hx hb hK hP 1 0 rfl rfl (vp_in_nI (by omega) (by omega)) dMD_row_12 ?_
  refine lv_topi (fun x3 e4 => ?_)
  have e4 : x3 = nI (mm 0 (mg - 1)) := e4.trans (by show nI (mm 0 (nI (mg - 1)).toNatClampNeg) = _; rw [nI_clamp (by omega)])
  subst e4
  refine lv_aload_n hx hb dMD_row_13 rfl (lv_at hl 1 rfl) ?_
  refine va_get (D := (dC, dI)) (ci := 6) (v := .ref b1) (C := RMD) (T := TMD) (N := 26) hx hb hz in_MD hown hK hP 0 rfl rfl 2 (by decide) (hz _ wd_586) (fun _ h9 => h9) rfl dMD_row_14 ?_
  refine lv_iload_n hx hb dMD_row_17 rfl (lv_at hl 0 rfl) ?_
  refine va_iald hx hb hK hP 2 1 rfl rfl (vp_in_nI (by omega) (by omega)) dMD_row_18 ?_
  refine lv_topi (fun x5 e6 => ?_)
  have e6 : x5 = nI (mm 1 (mg - 1)) := e6.trans (by show nI (mm 1 (nI (mg - 1)).toNatClampNeg) = _; rw [nI_clamp (by omega)])
  subst e6
  refine lv_iadd hx hb dMD_row_19 ?_
  refine lv_topi (fun x7 e8 => ?_)
  have e8 : x7 = nI ((mm 0 (mg - 1)) + (mm 1 (mg - 1))) := e8.trans (nI_add _ _)
  subst e8
  refine lv_istore_n hx hb dMD_row_20 rfl hl (Nat.le_of_ble_eq_true rfl) rfl (fun ls hl => ?_)
  have hl : lv_has ls 3 [(2, .int (nI ((mm 0 (mg - 1)) + (mm 1 (mg - 1))))), (1, .int (nI (mg - 1))), (0, .ref h0)] := hl
  refine lv_iload_n hx hb dMD_row_21 rfl (lv_at hl 0 rfl) ?_
  refine lv_bipush (v := nI 11) hx hb dMD_row_22 (by decide) ?_
  have t9 := hm 0 (mg - 1)
  have t10 := hm 1 (mg - 1)
  have t11 := nI_toInt (n := (mm 0 (mg - 1)) + (mm 1 (mg - 1))) (by omega)
  have t12 := nI_toInt (n := 11) (by omega)
  refine lv_icmp_le (tgt := 29) hx hb dMD_row_24 rfl (fun h1 => ?_) (fun h1 => ?_)
  · have h1 := z_le h1
    refine lv_aload_n hx hb dMD_row_29 rfl (lv_at hl 2 rfl) ?_
    refine va_get (D := (dC, dI)) (ci := 6) (v := .ref b1) (C := RMD) (T := TMD) (N := 26) hx hb hz in_MD hown hK hP 0 rfl rfl 2 (by decide) (hz _ wd_586) (fun _ h9 => h9) rfl dMD_row_30 ?_
    refine lv_iload_n hx hb dMD_row_33 rfl (lv_at hl 1 rfl) ?_
    refine lv_aload_n hx hb dMD_row_34 rfl (lv_at hl 2 rfl) ?_
    refine va_get (D := (dC, dI)) (ci := 6) (v := .ref b1) (C := RMD) (T := TMD) (N := 26) hx hb hz in_MD hown hK hP 0 rfl rfl 2 (by decide) (hz _ wd_586) (fun _ h9 => h9) rfl dMD_row_35 ?_
    refine lv_iload_n hx hb dMD_row_38 rfl (lv_at hl 1 rfl) ?_
    refine va_iald hx hb hK hP 2 1 rfl rfl (vp_in_nI (by omega) (by omega)) dMD_row_39 ?_
    refine lv_topi (fun x14 e15 => ?_)
    have e15 : x14 = nI (mm 1 (mg - 1)) := e15.trans (by show nI (mm 1 (nI (mg - 1)).toNatClampNeg) = _; rw [nI_clamp (by omega)])
    subst e15
    refine lv_iconst (v := nI 1) hx hb dMD_row_40 (by decide) ?_
    refine lv_iadd hx hb dMD_row_41 ?_
    refine lv_topi (fun x16 e17 => ?_)
    have e17 : x16 = nI ((mm 1 (mg - 1)) + 1) := e17.trans (nI_add _ _)
    subst e17
    refine va_iast hx hb hK hP hD hS 2 1 rfl rfl (vp_in_nI (by omega) (by omega)) dMD_row_42 (fun H locs hP hD hS => ?_)
    have e_u := z_upd (f := mm 1) (k := mg - 1) (v := (mm 1 (mg - 1)) + 1) (by omega)
    have hP : va_P (dC, dI) vwCl [(h0, .inr (6, [.int (nI mg), .ref b0, .ref b1, .int (nI n), .ref b2, .ref b3, .ref b4, .ref b5, .ref b6, .ref b7, .ref b8, .ref b9, .ref b10, .ref b11, .int (nI rg - nI 1), .int (nI rn), .int (nI ro), .int (nI sp), .int (nI gp), .int (nI fx), .ref b12, .ref b13, .ref b14, .ref b15, .ref b16, .ref b17])), (b0, .inl (kb0, 8, .inl (fun j => nI (mm 0 j)))), (b1, .inl (kb1, 8, .inl (fun j => nI (va_up (mm 1) (mg - 1) ((mm 1 (mg - 1)) + 1) j)))), (b2, .inl (kb2, 40, .inl (fun j => nI (mm 2 j)))), (b3, .inl (kb3, 40, .inl (fun j => nI (mm 3 j)))), (b4, .inl (kb4, 40, .inl (fun j => nI (mm 4 j)))), (b5, .inl (kb5, 40, .inl (fun j => nI (mm 5 j)))), (b6, .inl (kb6, 40, .inl (fun j => nI (mm 6 j)))), (b7, .inl (kb7, 40, .inl (fun j => nI (mm 7 j)))), (b8, .inl (kb8, 40, .inl (fun j => nI (mm 8 j)))), (b9, .inl (kb9, 40, .inl (fun j => nI (mm 9 j)))), (b10, .inl (kb10, 40, .inl (fun j => nI (mm 10 j)))), (b11, .inl (kb11, 40, .inl (fun j => nI (mm 11 j))))] H := by rw [← e_u]; exact hP
    have hD : va_D A [(h0, .inr (6, [.int (nI mg), .ref b0, .ref b1, .int (nI n), .ref b2, .ref b3, .ref b4, .ref b5, .ref b6, .ref b7, .ref b8, .ref b9, .ref b10, .ref b11, .int (nI rg - nI 1), .int (nI rn), .int (nI ro), .int (nI sp), .int (nI gp), .int (nI fx), .ref b12, .ref b13, .ref b14, .ref b15, .ref b16, .ref b17])), (b0, .inl (kb0, 8, .inl (fun j => nI (mm 0 j)))), (b1, .inl (kb1, 8, .inl (fun j => nI (va_up (mm 1) (mg - 1) ((mm 1 (mg - 1)) + 1) j)))), (b2, .inl (kb2, 40, .inl (fun j => nI (mm 2 j)))), (b3, .inl (kb3, 40, .inl (fun j => nI (mm 3 j)))), (b4, .inl (kb4, 40, .inl (fun j => nI (mm 4 j)))), (b5, .inl (kb5, 40, .inl (fun j => nI (mm 5 j)))), (b6, .inl (kb6, 40, .inl (fun j => nI (mm 6 j)))), (b7, .inl (kb7, 40, .inl (fun j => nI (mm 7 j)))), (b8, .inl (kb8, 40, .inl (fun j => nI (mm 8 j)))), (b9, .inl (kb9, 40, .inl (fun j => nI (mm 9 j)))), (b10, .inl (kb10, 40, .inl (fun j => nI (mm 10 j)))), (b11, .inl (kb11, 40, .inl (fun j => nI (mm 11 j))))] := by rw [← e_u]; exact hD
    refine lv_aload_n hx hb dMD_row_43 rfl (lv_at hl 2 rfl) ?_
    refine lv_iload_n hx hb dMD_row_44 rfl (lv_at hl 1 rfl) ?_
    refine lv_topi (fun x18 e19 => ?_)
    have e19 : x18 = nI mg - nI 1 := e19.trans ((pk_sub (by omega)).symm)
    subst e19
    refine va_put (D := (dC, dI)) (ci := 6) (v := .int (nI mg - nI 1)) (ty := .int) (C := RMD) (T := TMD) (N := 26) hx hb hz in_MD tyMD tokMD nokMD hown hK hP hD hS 0 rfl rfl 14 (by decide) (hz _ wd_598) (fun _ h9 => h9) rfl (by decide +kernel) rfl rfl (Nat.le_of_ble_eq_true rfl) dMD_row_45 (fun H locs hP hD hS => ?_)
    have hP : va_P (dC, dI) vwCl [(h0, .inr (6, [.int (nI mg), .ref b0, .ref b1, .int (nI n), .ref b2, .ref b3, .ref b4, .ref b5, .ref b6, .ref b7, .ref b8, .ref b9, .ref b10, .ref b11, .int (nI mg - nI 1), .int (nI rn), .int (nI ro), .int (nI sp), .int (nI gp), .int (nI fx), .ref b12, .ref b13, .ref b14, .ref b15, .ref b16, .ref b17])), (b0, .inl (kb0, 8, .inl (fun j => nI (mm 0 j)))), (b1, .inl (kb1, 8, .inl (fun j => nI (va_up (mm 1) (mg - 1) ((mm 1 (mg - 1)) + 1) j)))), (b2, .inl (kb2, 40, .inl (fun j => nI (mm 2 j)))), (b3, .inl (kb3, 40, .inl (fun j => nI (mm 3 j)))), (b4, .inl (kb4, 40, .inl (fun j => nI (mm 4 j)))), (b5, .inl (kb5, 40, .inl (fun j => nI (mm 5 j)))), (b6, .inl (kb6, 40, .inl (fun j => nI (mm 6 j)))), (b7, .inl (kb7, 40, .inl (fun j => nI (mm 7 j)))), (b8, .inl (kb8, 40, .inl (fun j => nI (mm 8 j)))), (b9, .inl (kb9, 40, .inl (fun j => nI (mm 9 j)))), (b10, .inl (kb10, 40, .inl (fun j => nI (mm 10 j)))), (b11, .inl (kb11, 40, .inl (fun j => nI (mm 11 j))))] H := hP
    have hD : va_D A [(h0, .inr (6, [.int (nI mg), .ref b0, .ref b1, .int (nI n), .ref b2, .ref b3, .ref b4, .ref b5, .ref b6, .ref b7, .ref b8, .ref b9, .ref b10, .ref b11, .int (nI mg - nI 1), .int (nI rn), .int (nI ro), .int (nI sp), .int (nI gp), .int (nI fx), .ref b12, .ref b13, .ref b14, .ref b15, .ref b16, .ref b17])), (b0, .inl (kb0, 8, .inl (fun j => nI (mm 0 j)))), (b1, .inl (kb1, 8, .inl (fun j => nI (va_up (mm 1) (mg - 1) ((mm 1 (mg - 1)) + 1) j)))), (b2, .inl (kb2, 40, .inl (fun j => nI (mm 2 j)))), (b3, .inl (kb3, 40, .inl (fun j => nI (mm 3 j)))), (b4, .inl (kb4, 40, .inl (fun j => nI (mm 4 j)))), (b5, .inl (kb5, 40, .inl (fun j => nI (mm 5 j)))), (b6, .inl (kb6, 40, .inl (fun j => nI (mm 6 j)))), (b7, .inl (kb7, 40, .inl (fun j => nI (mm 7 j)))), (b8, .inl (kb8, 40, .inl (fun j => nI (mm 8 j)))), (b9, .inl (kb9, 40, .inl (fun j => nI (mm 9 j)))), (b10, .inl (kb10, 40, .inl (fun j => nI (mm 10 j)))), (b11, .inl (kb11, 40, .inl (fun j => nI (mm 11 j))))] := hD
    refine lv_aload_n hx hb dMD_row_48 rfl (lv_at hl 2 rfl) ?_
    refine lv_iload_n hx hb dMD_row_49 rfl (lv_at hl 0 rfl) ?_
    refine va_put (D := (dC, dI)) (ci := 6) (v := .int (nI ((mm 0 (mg - 1)) + (mm 1 (mg - 1))))) (ty := .int) (C := RMD) (T := TMD) (N := 26) hx hb hz in_MD tyMD tokMD nokMD hown hK hP hD hS 0 rfl rfl 15 (by decide) (hz _ wd_599) (fun _ h9 => h9) rfl (by decide +kernel) rfl rfl (Nat.le_of_ble_eq_true rfl) dMD_row_50 (fun H locs hP hD hS => ?_)
    have hP : va_P (dC, dI) vwCl [(h0, .inr (6, [.int (nI mg), .ref b0, .ref b1, .int (nI n), .ref b2, .ref b3, .ref b4, .ref b5, .ref b6, .ref b7, .ref b8, .ref b9, .ref b10, .ref b11, .int (nI mg - nI 1), .int (nI ((mm 0 (mg - 1)) + (mm 1 (mg - 1)))), .int (nI ro), .int (nI sp), .int (nI gp), .int (nI fx), .ref b12, .ref b13, .ref b14, .ref b15, .ref b16, .ref b17])), (b0, .inl (kb0, 8, .inl (fun j => nI (mm 0 j)))), (b1, .inl (kb1, 8, .inl (fun j => nI (va_up (mm 1) (mg - 1) ((mm 1 (mg - 1)) + 1) j)))), (b2, .inl (kb2, 40, .inl (fun j => nI (mm 2 j)))), (b3, .inl (kb3, 40, .inl (fun j => nI (mm 3 j)))), (b4, .inl (kb4, 40, .inl (fun j => nI (mm 4 j)))), (b5, .inl (kb5, 40, .inl (fun j => nI (mm 5 j)))), (b6, .inl (kb6, 40, .inl (fun j => nI (mm 6 j)))), (b7, .inl (kb7, 40, .inl (fun j => nI (mm 7 j)))), (b8, .inl (kb8, 40, .inl (fun j => nI (mm 8 j)))), (b9, .inl (kb9, 40, .inl (fun j => nI (mm 9 j)))), (b10, .inl (kb10, 40, .inl (fun j => nI (mm 10 j)))), (b11, .inl (kb11, 40, .inl (fun j => nI (mm 11 j))))] H := hP
    have hD : va_D A [(h0, .inr (6, [.int (nI mg), .ref b0, .ref b1, .int (nI n), .ref b2, .ref b3, .ref b4, .ref b5, .ref b6, .ref b7, .ref b8, .ref b9, .ref b10, .ref b11, .int (nI mg - nI 1), .int (nI ((mm 0 (mg - 1)) + (mm 1 (mg - 1)))), .int (nI ro), .int (nI sp), .int (nI gp), .int (nI fx), .ref b12, .ref b13, .ref b14, .ref b15, .ref b16, .ref b17])), (b0, .inl (kb0, 8, .inl (fun j => nI (mm 0 j)))), (b1, .inl (kb1, 8, .inl (fun j => nI (va_up (mm 1) (mg - 1) ((mm 1 (mg - 1)) + 1) j)))), (b2, .inl (kb2, 40, .inl (fun j => nI (mm 2 j)))), (b3, .inl (kb3, 40, .inl (fun j => nI (mm 3 j)))), (b4, .inl (kb4, 40, .inl (fun j => nI (mm 4 j)))), (b5, .inl (kb5, 40, .inl (fun j => nI (mm 5 j)))), (b6, .inl (kb6, 40, .inl (fun j => nI (mm 6 j)))), (b7, .inl (kb7, 40, .inl (fun j => nI (mm 7 j)))), (b8, .inl (kb8, 40, .inl (fun j => nI (mm 8 j)))), (b9, .inl (kb9, 40, .inl (fun j => nI (mm 9 j)))), (b10, .inl (kb10, 40, .inl (fun j => nI (mm 10 j)))), (b11, .inl (kb11, 40, .inl (fun j => nI (mm 11 j))))] := hD
    refine lv_aload_n hx hb dMD_row_53 rfl (lv_at hl 2 rfl) ?_
    refine lv_iconst (v := nI 0) hx hb dMD_row_54 (by decide) ?_
    refine va_put (D := (dC, dI)) (ci := 6) (v := .int (nI 0)) (ty := .int) (C := RMD) (T := TMD) (N := 26) hx hb hz in_MD tyMD tokMD nokMD hown hK hP hD hS 0 rfl rfl 16 (by decide) (hz _ wd_600) (fun _ h9 => h9) rfl (by decide +kernel) rfl rfl (Nat.le_of_ble_eq_true rfl) dMD_row_55 (fun H locs hP hD hS => ?_)
    have hP : va_P (dC, dI) vwCl [(h0, .inr (6, [.int (nI mg), .ref b0, .ref b1, .int (nI n), .ref b2, .ref b3, .ref b4, .ref b5, .ref b6, .ref b7, .ref b8, .ref b9, .ref b10, .ref b11, .int (nI mg - nI 1), .int (nI ((mm 0 (mg - 1)) + (mm 1 (mg - 1)))), .int (nI 0), .int (nI sp), .int (nI gp), .int (nI fx), .ref b12, .ref b13, .ref b14, .ref b15, .ref b16, .ref b17])), (b0, .inl (kb0, 8, .inl (fun j => nI (mm 0 j)))), (b1, .inl (kb1, 8, .inl (fun j => nI (va_up (mm 1) (mg - 1) ((mm 1 (mg - 1)) + 1) j)))), (b2, .inl (kb2, 40, .inl (fun j => nI (mm 2 j)))), (b3, .inl (kb3, 40, .inl (fun j => nI (mm 3 j)))), (b4, .inl (kb4, 40, .inl (fun j => nI (mm 4 j)))), (b5, .inl (kb5, 40, .inl (fun j => nI (mm 5 j)))), (b6, .inl (kb6, 40, .inl (fun j => nI (mm 6 j)))), (b7, .inl (kb7, 40, .inl (fun j => nI (mm 7 j)))), (b8, .inl (kb8, 40, .inl (fun j => nI (mm 8 j)))), (b9, .inl (kb9, 40, .inl (fun j => nI (mm 9 j)))), (b10, .inl (kb10, 40, .inl (fun j => nI (mm 10 j)))), (b11, .inl (kb11, 40, .inl (fun j => nI (mm 11 j))))] H := hP
    have hD : va_D A [(h0, .inr (6, [.int (nI mg), .ref b0, .ref b1, .int (nI n), .ref b2, .ref b3, .ref b4, .ref b5, .ref b6, .ref b7, .ref b8, .ref b9, .ref b10, .ref b11, .int (nI mg - nI 1), .int (nI ((mm 0 (mg - 1)) + (mm 1 (mg - 1)))), .int (nI 0), .int (nI sp), .int (nI gp), .int (nI fx), .ref b12, .ref b13, .ref b14, .ref b15, .ref b16, .ref b17])), (b0, .inl (kb0, 8, .inl (fun j => nI (mm 0 j)))), (b1, .inl (kb1, 8, .inl (fun j => nI (va_up (mm 1) (mg - 1) ((mm 1 (mg - 1)) + 1) j)))), (b2, .inl (kb2, 40, .inl (fun j => nI (mm 2 j)))), (b3, .inl (kb3, 40, .inl (fun j => nI (mm 3 j)))), (b4, .inl (kb4, 40, .inl (fun j => nI (mm 4 j)))), (b5, .inl (kb5, 40, .inl (fun j => nI (mm 5 j)))), (b6, .inl (kb6, 40, .inl (fun j => nI (mm 6 j)))), (b7, .inl (kb7, 40, .inl (fun j => nI (mm 7 j)))), (b8, .inl (kb8, 40, .inl (fun j => nI (mm 8 j)))), (b9, .inl (kb9, 40, .inl (fun j => nI (mm 9 j)))), (b10, .inl (kb10, 40, .inl (fun j => nI (mm 10 j)))), (b11, .inl (kb11, 40, .inl (fun j => nI (mm 11 j))))] := hD
    refine lv_iload_n hx hb dMD_row_58 rfl (lv_at hl 0 rfl) ?_
    subst hQ
    exact zw_iret (D := (dC, dI)) (cl := vwCl) (A := A) (mg, mm 0 (mg - 1) + mm 1 (mg - 1), 0, zmRw mm mg) hx hb hr hlocks (Or.inr ⟨by omega, rfl, rfl, rfl, rfl, rfl⟩) (hP.sub [0, 1, 2, 3, 4, 5, 6, 7, 8, 9, 10, 11, 12] rfl) (hK.sub [] rfl) (hD.sub [0, 1, 2, 3, 4, 5, 6, 7, 8, 9, 10, 11, 12] (by decide) rfl) hS dMD_row_59
  · have h1 := z_nle h1
    refine lv_iconst (v := (-1)) hx hb dMD_row_27 (by decide) ?_
    subst hQ
    exact zw_iret (D := (dC, dI)) (cl := vwCl) (A := A) (rg, rn, ro, mm) hx hb hr hlocks (Or.inl ⟨by omega, rfl, rfl, rfl, rfl, rfl⟩) (hP.sub [0, 1, 2, 3, 4, 5, 6, 7, 8, 9, 10, 11, 12] rfl) (hK.sub [] rfl) (hD.sub [0, 1, 2, 3, 4, 5, 6, 7, 8, 9, 10, 11, 12] (by decide) rfl) hS dMD_row_28

set_option maxHeartbeats 4000000 in
set_option maxRecDepth 100000 in
theorem f_MD_clear (l : Launch) (dC : Nat → ClassId) (dI : Nat → Nat → Nat) (h0 : Nat) (b0 : Nat) (b1 : Nat) (b2 : Nat) (b3 : Nat) (b4 : Nat) (b5 : Nat) (b6 : Nat) (b7 : Nat) (b8 : Nat) (b9 : Nat) (b10 : Nat) (b11 : Nat) (b12 : Nat) (b13 : Nat) (b14 : Nat) (b15 : Nat) (b16 : Nat) (b17 : Nat) (kb0 : ClassId) (kb1 : ClassId) (kb2 : ClassId) (kb3 : ClassId) (kb4 : ClassId) (kb5 : ClassId) (kb6 : ClassId) (kb7 : ClassId) (kb8 : ClassId) (kb9 : ClassId) (kb10 : ClassId) (kb11 : ClassId) (mg : Nat) (n : Nat) (rg : Nat) (rn : Nat) (ro : Nat) (sp : Nat) (gp : Nat) (fx : Nat) (mm : Nat → Nat → Nat) (hm : ∀ a k, mm a k ≤ 1000) (hn : n ≤ 40) (hg : 1 ≤ mg ∧ mg ≤ 8 ∧ rg ≤ 8 ∧ rn ≤ 1000 ∧ ro ≤ 1000) (hG : ∀ k, k < n → mm 6 k < 8) (hE : ∀ k, k < n → mm 3 k ≤ zEn mm (mm 6 k) n) : zw_Mi (S := (Nat → Nat → Nat)) l yMD_clear wMD_clear ({ frames := 0, cells := 0, slots := 0, locals := 0 }) [.ref h0] (dC, dI) vwCl [(h0, .inr (6, [.int (nI mg), .ref b0, .ref b1, .int (nI n), .ref b2, .ref b3, .ref b4, .ref b5, .ref b6, .ref b7, .ref b8, .ref b9, .ref b10, .ref b11, .int (nI rg - nI 1), .int (nI rn), .int (nI ro), .int (nI sp), .int (nI gp), .int (nI fx), .ref b12, .ref b13, .ref b14, .ref b15, .ref b16, .ref b17])), (b0, .inl (kb0, 8, .inl (fun j => nI (mm 0 j)))), (b1, .inl (kb1, 8, .inl (fun j => nI (mm 1 j)))), (b2, .inl (kb2, 40, .inl (fun j => nI (mm 2 j)))), (b3, .inl (kb3, 40, .inl (fun j => nI (mm 3 j)))), (b4, .inl (kb4, 40, .inl (fun j => nI (mm 4 j)))), (b5, .inl (kb5, 40, .inl (fun j => nI (mm 5 j)))), (b6, .inl (kb6, 40, .inl (fun j => nI (mm 6 j)))), (b7, .inl (kb7, 40, .inl (fun j => nI (mm 7 j)))), (b8, .inl (kb8, 40, .inl (fun j => nI (mm 8 j)))), (b9, .inl (kb9, 40, .inl (fun j => nI (mm 9 j)))), (b10, .inl (kb10, 40, .inl (fun j => nI (mm 10 j)))), (b11, .inl (kb11, 40, .inl (fun j => nI (mm 11 j))))] [(kb0, .int), (kb1, .int), (kb2, .int), (kb3, .int), (kb4, .int), (kb5, .int), (kb6, .int), (kb7, .int), (kb8, .int), (kb9, .int), (kb10, .int), (kb11, .int)] (fun _ _ => True) (fun r (m2 : Nat → Nat → Nat) => r = nI n ∧ m2 = zmCl mm) (fun (m2 : Nat → Nat → Nat) => [(h0, .inr (6, [.int (nI 1), .ref b0, .ref b1, .int (nI 0), .ref b2, .ref b3, .ref b4, .ref b5, .ref b6, .ref b7, .ref b8, .ref b9, .ref b10, .ref b11, .int (nI 0 - nI 1), .int (nI rn), .int (nI ro), .int (nI sp), .int (nI gp), .int (nI fx), .ref b12, .ref b13, .ref b14, .ref b15, .ref b16, .ref b17])), (b0, .inl (kb0, 8, .inl (fun j => nI (m2 0 j)))), (b1, .inl (kb1, 8, .inl (fun j => nI (m2 1 j)))), (b2, .inl (kb2, 40, .inl (fun j => nI (m2 2 j)))), (b3, .inl (kb3, 40, .inl (fun j => nI (m2 3 j)))), (b4, .inl (kb4, 40, .inl (fun j => nI (m2 4 j)))), (b5, .inl (kb5, 40, .inl (fun j => nI (m2 5 j)))), (b6, .inl (kb6, 40, .inl (fun j => nI (m2 6 j)))), (b7, .inl (kb7, 40, .inl (fun j => nI (m2 7 j)))), (b8, .inl (kb8, 40, .inl (fun j => nI (m2 8 j)))), (b9, .inl (kb9, 40, .inl (fun j => nI (m2 9 j)))), (b10, .inl (kb10, 40, .inl (fun j => nI (m2 10 j)))), (b11, .inl (kb11, 40, .inl (fun j => nI (m2 11 j))))]) (fun (m2 : Nat → Nat → Nat) => []) 0 0 := by
  refine zw_headi (cc := cMD_clear) (maxL := 2) (ret := (some .int)) (by decide +kernel) rfl (Nat.le_of_ble_eq_true rfl) ?_
  intro p e s m below meth c ls A F hA hP hK hD hS hX hl
  obtain ⟨hx, hb, hml, hr, hlocks, hown, hts⟩ := F
  have hown : s.vm.findClass "SpannedCellsModel" = some m.cls := hown
  have hz : ∀ w9 ∈ zT, w9.before [.ref h0].toArray s = true := fun w9 h => hts w9 (List.mem_cons_of_mem _ h)
  have hl : lv_has ls 2 [(0, .ref h0)] := hl
  refine z_q (fun Q hQ => ?_)
  refine lv_aload_n hx hb dMD_clear_0 rfl (lv_at hl 0 rfl) ?_
  refine va_get (D := (dC, dI)) (ci := 6) (v := .int (nI n)) (C := RMD) (T := TMD) (N := 26) hx hb hz in_MD hown hK hP 0 rfl rfl 3 (by decide) (hz _ wd_587) (fun _ h9 => h9) rfl dMD_clear_1 ?_
  refine lv_istore_n hx hb dMD_clear_4 rfl hl (Nat.le_of_ble_eq_true rfl) rfl (fun ls hl => ?_)
  have hl : lv_has ls 2 [(1, .int (nI n)), (0, .ref h0)] := hl
  refine lv_aload_n hx hb dMD_clear_5 rfl (lv_at hl 1 rfl) ?_
  refine lv_iconst (v := nI 0) hx hb dMD_clear_6 (by decide) ?_
  refine va_put (D := (dC, dI)) (ci := 6) (v := .int (nI 0)) (ty := .int) (C := RMD) (T := TMD) (N := 26) hx hb hz in_MD tyMD tokMD nokMD hown hK hP hD hS 0 rfl rfl 3 (by decide) (hz _ wd_587) (fun _ h9 => h9) rfl (by decide +kernel) rfl rfl (Nat.le_of_ble_eq_true rfl) dMD_clear_7 (fun H locs hP hD hS => ?_)
  have hP : va_P (dC, dI) vwCl [(h0, .inr (6, [.int (nI mg), .ref b0, .ref b1, .int (nI 0), .ref b2, .ref b3, .ref b4, .ref b5, .ref b6, .ref b7, .ref b8, .ref b9, .ref b10, .ref b11, .int (nI rg - nI 1), .int (nI rn), .int (nI ro), .int (nI sp), .int (nI gp), .int (nI fx), .ref b12, .ref b13, .ref b14, .ref b15, .ref b16, .ref b17])), (b0, .inl (kb0, 8, .inl (fun j => nI (mm 0 j)))), (b1, .inl (kb1, 8, .inl (fun j => nI (mm 1 j)))), (b2, .inl (kb2, 40, .inl (fun j => nI (mm 2 j)))), (b3, .inl (kb3, 40, .inl (fun j => nI (mm 3 j)))), (b4, .inl (kb4, 40, .inl (fun j => nI (mm 4 j)))), (b5, .inl (kb5, 40, .inl (fun j => nI (mm 5 j)))), (b6, .inl (kb6, 40, .inl (fun j => nI (mm 6 j)))), (b7, .inl (kb7, 40, .inl (fun j => nI (mm 7 j)))), (b8, .inl (kb8, 40, .inl (fun j => nI (mm 8 j)))), (b9, .inl (kb9, 40, .inl (fun j => nI (mm 9 j)))), (b10, .inl (kb10, 40, .inl (fun j => nI (mm 10 j)))), (b11, .inl (kb11, 40, .inl (fun j => nI (mm 11 j))))] H := hP
  have hD : va_D A [(h0, .inr (6, [.int (nI mg), .ref b0, .ref b1, .int (nI 0), .ref b2, .ref b3, .ref b4, .ref b5, .ref b6, .ref b7, .ref b8, .ref b9, .ref b10, .ref b11, .int (nI rg - nI 1), .int (nI rn), .int (nI ro), .int (nI sp), .int (nI gp), .int (nI fx), .ref b12, .ref b13, .ref b14, .ref b15, .ref b16, .ref b17])), (b0, .inl (kb0, 8, .inl (fun j => nI (mm 0 j)))), (b1, .inl (kb1, 8, .inl (fun j => nI (mm 1 j)))), (b2, .inl (kb2, 40, .inl (fun j => nI (mm 2 j)))), (b3, .inl (kb3, 40, .inl (fun j => nI (mm 3 j)))), (b4, .inl (kb4, 40, .inl (fun j => nI (mm 4 j)))), (b5, .inl (kb5, 40, .inl (fun j => nI (mm 5 j)))), (b6, .inl (kb6, 40, .inl (fun j => nI (mm 6 j)))), (b7, .inl (kb7, 40, .inl (fun j => nI (mm 7 j)))), (b8, .inl (kb8, 40, .inl (fun j => nI (mm 8 j)))), (b9, .inl (kb9, 40, .inl (fun j => nI (mm 9 j)))), (b10, .inl (kb10, 40, .inl (fun j => nI (mm 10 j)))), (b11, .inl (kb11, 40, .inl (fun j => nI (mm 11 j))))] := hD
  refine lv_aload_n hx hb dMD_clear_10 rfl (lv_at hl 1 rfl) ?_
  refine lv_iconst (v := nI 1) hx hb dMD_clear_11 (by decide) ?_
  refine va_put (D := (dC, dI)) (ci := 6) (v := .int (nI 1)) (ty := .int) (C := RMD) (T := TMD) (N := 26) hx hb hz in_MD tyMD tokMD nokMD hown hK hP hD hS 0 rfl rfl 0 (by decide) (hz _ wd_584) (fun _ h9 => h9) rfl (by decide +kernel) rfl rfl (Nat.le_of_ble_eq_true rfl) dMD_clear_12 (fun H locs hP hD hS => ?_)
  have hP : va_P (dC, dI) vwCl [(h0, .inr (6, [.int (nI 1), .ref b0, .ref b1, .int (nI 0), .ref b2, .ref b3, .ref b4, .ref b5, .ref b6, .ref b7, .ref b8, .ref b9, .ref b10, .ref b11, .int (nI rg - nI 1), .int (nI rn), .int (nI ro), .int (nI sp), .int (nI gp), .int (nI fx), .ref b12, .ref b13, .ref b14, .ref b15, .ref b16, .ref b17])), (b0, .inl (kb0, 8, .inl (fun j => nI (mm 0 j)))), (b1, .inl (kb1, 8, .inl (fun j => nI (mm 1 j)))), (b2, .inl (kb2, 40, .inl (fun j => nI (mm 2 j)))), (b3, .inl (kb3, 40, .inl (fun j => nI (mm 3 j)))), (b4, .inl (kb4, 40, .inl (fun j => nI (mm 4 j)))), (b5, .inl (kb5, 40, .inl (fun j => nI (mm 5 j)))), (b6, .inl (kb6, 40, .inl (fun j => nI (mm 6 j)))), (b7, .inl (kb7, 40, .inl (fun j => nI (mm 7 j)))), (b8, .inl (kb8, 40, .inl (fun j => nI (mm 8 j)))), (b9, .inl (kb9, 40, .inl (fun j => nI (mm 9 j)))), (b10, .inl (kb10, 40, .inl (fun j => nI (mm 10 j)))), (b11, .inl (kb11, 40, .inl (fun j => nI (mm 11 j))))] H := hP
  have hD : va_D A [(h0, .inr (6, [.int (nI 1), .ref b0, .ref b1, .int (nI 0), .ref b2, .ref b3, .ref b4, .ref b5, .ref b6, .ref b7, .ref b8, .ref b9, .ref b10, .ref b11, .int (nI rg - nI 1), .int (nI rn), .int (nI ro), .int (nI sp), .int (nI gp), .int (nI fx), .ref b12, .ref b13, .ref b14, .ref b15, .ref b16, .ref b17])), (b0, .inl (kb0, 8, .inl (fun j => nI (mm 0 j)))), (b1, .inl (kb1, 8, .inl (fun j => nI (mm 1 j)))), (b2, .inl (kb2, 40, .inl (fun j => nI (mm 2 j)))), (b3, .inl (kb3, 40, .inl (fun j => nI (mm 3 j)))), (b4, .inl (kb4, 40, .inl (fun j => nI (mm 4 j)))), (b5, .inl (kb5, 40, .inl (fun j => nI (mm 5 j)))), (b6, .inl (kb6, 40, .inl (fun j => nI (mm 6 j)))), (b7, .inl (kb7, 40, .inl (fun j => nI (mm 7 j)))), (b8, .inl (kb8, 40, .inl (fun j => nI (mm 8 j)))), (b9, .inl (kb9, 40, .inl (fun j => nI (mm 9 j)))), (b10, .inl (kb10, 40, .inl (fun j => nI (mm 10 j)))), (b11, .inl (kb11, 40, .inl (fun j => nI (mm 11 j))))] := hD
  refine lv_aload_n hx hb dMD_clear_15 rfl (lv_at hl 1 rfl) ?_
  refine va_get (D := (dC, dI)) (ci := 6) (v := .ref b0) (C := RMD) (T := TMD) (N := 26) hx hb hz in_MD hown hK hP 0 rfl rfl 1 (by decide) (hz _ wd_585) (fun _ h9 => h9) rfl dMD_clear_16 ?_
  refine lv_iconst (v := nI 0) hx hb dMD_clear_19 (by decide) ?_
  refine lv_iconst (v := nI 0) hx hb dMD_clear_20 (by decide) ?_
  refine va_iast hx hb hK hP hD hS 1 0 rfl rfl (vp_in_nI (by omega) (by omega)) dMD_clear_21 (fun H locs hP hD hS => ?_)
  have e_u := z_upd (f := mm 0) (k := 0) (v := 0) (by omega)
  have hP : va_P (dC, dI) vwCl [(h0, .inr (6, [.int (nI 1), .ref b0, .ref b1, .int (nI 0), .ref b2, .ref b3, .ref b4, .ref b5, .ref b6, .ref b7, .ref b8, .ref b9, .ref b10, .ref b11, .int (nI rg - nI 1), .int (nI rn), .int (nI ro), .int (nI sp), .int (nI gp), .int (nI fx), .ref b12, .ref b13, .ref b14, .ref b15, .ref b16, .ref b17])), (b0, .inl (kb0, 8, .inl (fun j => nI (va_up (mm 0) 0 0 j)))), (b1, .inl (kb1, 8, .inl (fun j => nI (mm 1 j)))), (b2, .inl (kb2, 40, .inl (fun j => nI (mm 2 j)))), (b3, .inl (kb3, 40, .inl (fun j => nI (mm 3 j)))), (b4, .inl (kb4, 40, .inl (fun j => nI (mm 4 j)))), (b5, .inl (kb5, 40, .inl (fun j => nI (mm 5 j)))), (b6, .inl (kb6, 40, .inl (fun j => nI (mm 6 j)))), (b7, .inl (kb7, 40, .inl (fun j => nI (mm 7 j)))), (b8, .inl (kb8, 40, .inl (fun j => nI (mm 8 j)))), (b9, .inl (kb9, 40, .inl (fun j => nI (mm 9 j)))), (b10, .inl (kb10, 40, .inl (fun j => nI (mm 10 j)))), (b11, .inl (kb11, 40, .inl (fun j => nI (mm 11 j))))] H := by rw [← e_u]; exact hP
  have hD : va_D A [(h0, .inr (6, [.int (nI 1), .ref b0, .ref b1, .int (nI 0), .ref b2, .ref b3, .ref b4, .ref b5, .ref b6, .ref b7, .ref b8, .ref b9, .ref b10, .ref b11, .int (nI rg - nI 1), .int (nI rn), .int (nI ro), .int (nI sp), .int (nI gp), .int (nI fx), .ref b12, .ref b13, .ref b14, .ref b15, .ref b16, .ref b17])), (b0, .inl (kb0, 8, .inl (fun j => nI (va_up (mm 0) 0 0 j)))), (b1, .inl (kb1, 8, .inl (fun j => nI (mm 1 j)))), (b2, .inl (kb2, 40, .inl (fun j => nI (mm 2 j)))), (b3, .inl (kb3, 40, .inl (fun j => nI (mm 3 j)))), (b4, .inl (kb4, 40, .inl (fun j => nI (mm 4 j)))), (b5, .inl (kb5, 40, .inl (fun j => nI (mm 5 j)))), (b6, .inl (kb6, 40, .inl (fun j => nI (mm 6 j)))), (b7, .inl (kb7, 40, .inl (fun j => nI (mm 7 j)))), (b8, .inl (kb8, 40, .inl (fun j => nI (mm 8 j)))), (b9, .inl (kb9, 40, .inl (fun j => nI (mm 9 j)))), (b10, .inl (kb10, 40, .inl (fun j => nI (mm 10 j)))), (b11, .inl (kb11, 40, .inl (fun j => nI (mm 11 j))))] := by rw [← e_u]; exact hD
  refine lv_aload_n hx hb dMD_clear_22 rfl (lv_at hl 1 rfl) ?_
  refine va_get (D := (dC, dI)) (ci := 6) (v := .ref b1) (C := RMD) (T := TMD) (N := 26) hx hb hz in_MD hown hK hP 0 rfl rfl 2 (by decide) (hz _ wd_586) (fun _ h9 => h9) rfl dMD_clear_23 ?_
  refine lv_iconst (v := nI 0) hx hb dMD_clear_26 (by decide) ?_
  refine lv_iconst (v := nI 0) hx hb dMD_clear_27 (by decide) ?_
  refine va_iast hx hb hK hP hD hS 2 1 rfl rfl (vp_in_nI (by omega) (by omega)) dMD_clear_28 (fun H locs hP hD hS => ?_)
  have e_u := z_upd (f := mm 1) (k := 0) (v := 0) (by omega)
  have hP : va_P (dC, dI) vwCl [(h0, .inr (6, [.int (nI 1), .ref b0, .ref b1, .int (nI 0), .ref b2, .ref b3, .ref b4, .ref b5, .ref b6, .ref b7, .ref b8, .ref b9, .ref b10, .ref b11, .int (nI rg - nI 1), .int (nI rn), .int (nI ro), .int (nI sp), .int (nI gp), .int (nI fx), .ref b12, .ref b13, .ref b14, .ref b15, .ref b16, .ref b17])), (b0, .inl (kb0, 8, .inl (fun j => nI (va_up (mm 0) 0 0 j)))), (b1, .inl (kb1, 8, .inl (fun j => nI (va_up (mm 1) 0 0 j)))), (b2, .inl (kb2, 40, .inl (fun j => nI (mm 2 j)))), (b3, .inl (kb3, 40, .inl (fun j => nI (mm 3 j)))), (b4, .inl (kb4, 40, .inl (fun j => nI (mm 4 j)))), (b5, .inl (kb5, 40, .inl (fun j => nI (mm 5 j)))), (b6, .inl (kb6, 40, .inl (fun j => nI (mm 6 j)))), (b7, .inl (kb7, 40, .inl (fun j => nI (mm 7 j)))), (b8, .inl (kb8, 40, .inl (fun j => nI (mm 8 j)))), (b9, .inl (kb9, 40, .inl (fun j => nI (mm 9 j)))), (b10, .inl (kb10, 40, .inl (fun j => nI (mm 10 j)))), (b11, .inl (kb11, 40, .inl (fun j => nI (mm 11 j))))] H := by rw [← e_u]; exact hP
  have hD : va_D A [(h0, .inr (6, [.int (nI 1), .ref b0, .ref b1, .int (nI 0), .ref b2, .ref b3, .ref b4, .ref b5, .ref b6, .ref b7, .ref b8, .ref b9, .ref b10, .ref b11, .int (nI rg - nI 1), .int (nI rn), .int (nI ro), .int (nI sp), .int (nI gp), .int (nI fx), .ref b12, .ref b13, .ref b14, .ref b15, .ref b16, .ref b17])), (b0, .inl (kb0, 8, .inl (fun j => nI (va_up (mm 0) 0 0 j)))), (b1, .inl (kb1, 8, .inl (fun j => nI (va_up (mm 1) 0 0 j)))), (b2, .inl (kb2, 40, .inl (fun j => nI (mm 2 j)))), (b3, .inl (kb3, 40, .inl (fun j => nI (mm 3 j)))), (b4, .inl (kb4, 40, .inl (fun j => nI (mm 4 j)))), (b5, .inl (kb5, 40, .inl (fun j => nI (mm 5 j)))), (b6, .inl (kb6, 40, .inl (fun j => nI (mm 6 j)))), (b7, .inl (kb7, 40, .inl (fun j => nI (mm 7 j)))), (b8, .inl (kb8, 40, .inl (fun j => nI (mm 8 j)))), (b9, .inl (kb9, 40, .inl (fun j => nI (mm 9 j)))), (b10, .inl (kb10, 40, .inl (fun j => nI (mm 10 j)))), (b11, .inl (kb11, 40, .inl (fun j => nI (mm 11 j))))] := by rw [← e_u]; exact hD
  refine lv_aload_n hx hb dMD_clear_29 rfl (lv_at hl 1 rfl) ?_
  refine lv_iconst (v := (-1)) hx hb dMD_clear_30 (by decide) ?_
  refine lv_topi (fun x1 e2 => ?_)
  have e2 : x1 = nI 0 - nI 1 := e2.trans (by decide)
  subst e2
  refine va_put (D := (dC, dI)) (ci := 6) (v := .int (nI 0 - nI 1)) (ty := .int) (C := RMD) (T := TMD) (N := 26) hx hb hz in_MD tyMD tokMD nokMD hown hK hP hD hS 0 rfl rfl 14 (by decide) (hz _ wd_598) (fun _ h9 => h9) rfl (by decide +kernel) rfl rfl (Nat.le_of_ble_eq_true rfl) dMD_clear_31 (fun H locs hP hD hS => ?_)
  have hP : va_P (dC, dI) vwCl [(h0, .inr (6, [.int (nI 1), .ref b0, .ref b1, .int (nI 0), .ref b2, .ref b3, .ref b4, .ref b5, .ref b6, .ref b7, .ref b8, .ref b9, .ref b10, .ref b11, .int (nI 0 - nI 1), .int (nI rn), .int (nI ro), .int (nI sp), .int (nI gp), .int (nI fx), .ref b12, .ref b13, .ref b14, .ref b15, .ref b16, .ref b17])), (b0, .inl (kb0, 8, .inl (fun j => nI (va_up (mm 0) 0 0 j)))), (b1, .inl (kb1, 8, .inl (fun j => nI (va_up (mm 1) 0 0 j)))), (b2, .inl (kb2, 40, .inl (fun j => nI (mm 2 j)))), (b3, .inl (kb3, 40, .inl (fun j => nI (mm 3 j)))), (b4, .inl (kb4, 40, .inl (fun j => nI (mm 4 j)))), (b5, .inl (kb5, 40, .inl (fun j => nI (mm 5 j)))), (b6, .inl (kb6, 40, .inl (fun j => nI (mm 6 j)))), (b7, .inl (kb7, 40, .inl (fun j => nI (mm 7 j)))), (b8, .inl (kb8, 40, .inl (fun j => nI (mm 8 j)))), (b9, .inl (kb9, 40, .inl (fun j => nI (mm 9 j)))), (b10, .inl (kb10, 40, .inl (fun j => nI (mm 10 j)))), (b11, .inl (kb11, 40, .inl (fun j => nI (mm 11 j))))] H := hP
  have hD : va_D A [(h0, .inr (6, [.int (nI 1), .ref b0, .ref b1, .int (nI 0), .ref b2, .ref b3, .ref b4, .ref b5, .ref b6, .ref b7, .ref b8, .ref b9, .ref b10, .ref b11, .int (nI 0 - nI 1), .int (nI rn), .int (nI ro), .int (nI sp), .int (nI gp), .int (nI fx), .ref b12, .ref b13, .ref b14, .ref b15, .ref b16, .ref b17])), (b0, .inl (kb0, 8, .inl (fun j => nI (va_up (mm 0) 0 0 j)))), (b1, .inl (kb1, 8, .inl (fun j => nI (va_up (mm 1) 0 0 j)))), (b2, .inl (kb2, 40, .inl (fun j => nI (mm 2 j)))), (b3, .inl (kb3, 40, .inl (fun j => nI (mm 3 j)))), (b4, .inl (kb4, 40, .inl (fun j => nI (mm 4 j)))), (b5, .inl (kb5, 40, .inl (fun j => nI (mm 5 j)))), (b6, .inl (kb6, 40, .inl (fun j => nI (mm 6 j)))), (b7, .inl (kb7, 40, .inl (fun j => nI (mm 7 j)))), (b8, .inl (kb8, 40, .inl (fun j => nI (mm 8 j)))), (b9, .inl (kb9, 40, .inl (fun j => nI (mm 9 j)))), (b10, .inl (kb10, 40, .inl (fun j => nI (mm 10 j)))), (b11, .inl (kb11, 40, .inl (fun j => nI (mm 11 j))))] := hD
  refine lv_iload_n hx hb dMD_clear_34 rfl (lv_at hl 0 rfl) ?_
  subst hQ
  exact zw_iret (D := (dC, dI)) (cl := vwCl) (A := A) (zmCl mm) hx hb hr hlocks (⟨rfl, rfl⟩) (hP.sub [0, 1, 2, 3, 4, 5, 6, 7, 8, 9, 10, 11, 12] rfl) (hK.sub [] rfl) (hD.sub [0, 1, 2, 3, 4, 5, 6, 7, 8, 9, 10, 11, 12] (by decide) rfl) hS dMD_clear_35
end
section
set_option maxHeartbeats 4000000 in
set_option maxRecDepth 100000 in
theorem f_MD_cell (l : Launch) (dC : Nat → ClassId) (dI : Nat → Nat → Nat) (h0 : Nat) (b0 : Nat) (b1 : Nat) (b2 : Nat) (b3 : Nat) (b4 : Nat) (b5 : Nat) (b6 : Nat) (b7 : Nat) (b8 : Nat) (b9 : Nat) (b10 : Nat) (b11 : Nat) (b12 : Nat) (b13 : Nat) (b14 : Nat) (b15 : Nat) (b16 : Nat) (b17 : Nat) (kb0 : ClassId) (kb1 : ClassId) (kb2 : ClassId) (kb3 : ClassId) (kb4 : ClassId) (kb5 : ClassId) (kb6 : ClassId) (kb7 : ClassId) (kb8 : ClassId) (kb9 : ClassId) (kb10 : ClassId) (kb11 : ClassId) (mg : Nat) (n : Nat) (rg : Nat) (rn : Nat) (ro : Nat) (sp : Nat) (gp : Nat) (fx : Nat) (mm : Nat → Nat → Nat) (a : Int32) (b : Int32) (c1 : Int32) (d1 : Int32) (e1 : Int32) (hm : ∀ a k, mm a k ≤ 1000) (hn : n ≤ 40) (hg : 1 ≤ mg ∧ mg ≤ 8 ∧ rg ≤ 8 ∧ rn ≤ 1000 ∧ ro ≤ 1000) (hG : ∀ k, k < n → mm 6 k < 8) (hE : ∀ k, k < n → mm 3 k ≤ zEn mm (mm 6 k) n) (hro : ro ≤ 12) : zw_Mi (S := (Nat) × (Nat) × (Nat → Nat → Nat)) l yMD_cell wMD_cell ({ frames := 1, cells := 0, slots := 0, locals := 24 }) [.ref h0, .int a, .int b, .int c1, .int d1, .int e1] (dC, dI) vwCl [(h0, .inr (6, [.int (nI mg), .ref b0, .ref b1, .int (nI n), .ref b2, .ref b3, .ref b4, .ref b5, .ref b6, .ref b7, .ref b8, .ref b9, .ref b10, .ref b11, .int (nI rg - nI 1), .int (nI rn), .int (nI ro), .int (nI sp), .int (nI gp), .int (nI fx), .ref b12, .ref b13, .ref b14, .ref b15, .ref b16, .ref b17])), (b0, .inl (kb0, 8, .inl (fun j => nI (mm 0 j)))), (b1, .inl (kb1, 8, .inl (fun j => nI (mm 1 j)))), (b2, .inl (kb2, 40, .inl (fun j => nI (mm 2 j)))), (b3, .inl (kb3, 40, .inl (fun j => nI (mm 3 j)))), (b4, .inl (kb4, 40, .inl (fun j => nI (mm 4 j)))), (b5, .inl (kb5, 40, .inl (fun j => nI (mm 5 j)))), (b6, .inl (kb6, 40, .inl (fun j => nI (mm 6 j)))), (b7, .inl (kb7, 40, .inl (fun j => nI (mm 7 j)))), (b8, .inl (kb8, 40, .inl (fun j => nI (mm 8 j)))), (b9, .inl (kb9, 40, .inl (fun j => nI (mm 9 j)))), (b10, .inl (kb10, 40, .inl (fun j => nI (mm 10 j)))), (b11, .inl (kb11, 40, .inl (fun j => nI (mm 11 j))))] [(kb0, .int), (kb1, .int), (kb2, .int), (kb3, .int), (kb4, .int), (kb5, .int), (kb6, .int), (kb7, .int), (kb8, .int), (kb9, .int), (kb10, .int), (kb11, .int)] (fun _ _ => True) (fun r u => match u with | (n2, ro2, m2) => zmCe mm n rg mg rn ro a b c1 d1 e1 r n2 ro2 m2) (fun u => match u with | (n2, ro2, m2) => [(h0, .inr (6, [.int (nI mg), .ref b0, .ref b1, .int (nI n2), .ref b2, .ref b3, .ref b4, .ref b5, .ref b6, .ref b7, .ref b8, .ref b9, .ref b10, .ref b11, .int (nI rg - nI 1), .int (nI rn), .int (nI ro2), .int (nI sp), .int (nI gp), .int (nI fx), .ref b12, .ref b13, .ref b14, .ref b15, .ref b16, .ref b17])), (b0, .inl (kb0, 8, .inl (fun j => nI (m2 0 j)))), (b1, .inl (kb1, 8, .inl (fun j => nI (m2 1 j)))), (b2, .inl (kb2, 40, .inl (fun j => nI (m2 2 j)))), (b3, .inl (kb3, 40, .inl (fun j => nI (m2 3 j)))), (b4, .inl (kb4, 40, .inl (fun j => nI (m2 4 j)))), (b5, .inl (kb5, 40, .inl (fun j => nI (m2 5 j)))), (b6, .inl (kb6, 40, .inl (fun j => nI (m2 6 j)))), (b7, .inl (kb7, 40, .inl (fun j => nI (m2 7 j)))), (b8, .inl (kb8, 40, .inl (fun j => nI (m2 8 j)))), (b9, .inl (kb9, 40, .inl (fun j => nI (m2 9 j)))), (b10, .inl (kb10, 40, .inl (fun j => nI (m2 10 j)))), (b11, .inl (kb11, 40, .inl (fun j => nI (m2 11 j))))]) (fun u => match u with | (n2, ro2, m2) => []) 0 0 := by
  refine zw_headi (cc := cMD_cell) (maxL := 9) (ret := (some .int)) (by decide +kernel) rfl (Nat.le_of_ble_eq_true rfl) ?_
  intro p e s m below meth c ls A F hA hP hK hD hS hX hl
  obtain ⟨hx, hb, hml, hr, hlocks, hown, hts⟩ := F
  have hown : s.vm.findClass "SpannedCellsModel" = some m.cls := hown
  have hz : ∀ w9 ∈ zT, w9.before [.ref h0, .int a, .int b, .int c1, .int d1, .int e1].toArray s = true := fun w9 h => hts w9 (List.mem_cons_of_mem _ h)
  have hl : lv_has ls 9 [(0, .ref h0), (1, .int a), (2, .int b), (3, .int c1), (4, .int d1), (5, .int e1)] := hl
  refine z_q (fun Q hQ => ?_)
  refine z_join (fun v1 : Int32 => z_yn v1 (zGood a b c1 d1 e1)) (fun v1 => W p l e ({ frames := 1, cells := 0, slots := 0, locals := 24 }) s m [.ref h0, .int a, .int b, .int c1, .int d1, .int e1].toArray below meth c s.heap [] 0 0 Q (F0 m 56 ls (.int v1 :: []))) (fun v1 hv1 => ?_) (fun J56 => ?_)
  · refine lv_istore hx hb dMD_cell_56 hl (Nat.le_of_ble_eq_true rfl) rfl (fun ls hl => ?_)
    have hl : lv_has ls 9 [(6, .int v1), (0, .ref h0), (1, .int a), (2, .int b), (3, .int c1), (4, .int d1), (5, .int e1)] := hl
    refine lv_iload hx hb dMD_cell_58 (lv_at hl 0 rfl) ?_
    refine lv_if_eq (tgt := 85) hx hb dMD_cell_60 rfl (fun h_g => ?_) (fun h_g => ?_)
    · have h_g := z_yF hv1 h_g
      refine lv_iconst (v := (-1)) hx hb dMD_cell_85 (by decide) ?_
      subst hQ
      exact zw_iret (D := (dC, dI)) (cl := vwCl) (A := A) (n, ro, mm) hx hb hr hlocks (Or.inl ⟨fun h9 => h_g h9.1, rfl, rfl, rfl, rfl⟩) (hP.sub [0, 1, 2, 3, 4, 5, 6, 7, 8, 9, 10, 11, 12] rfl) (hK.sub [] rfl) (hD.sub [0, 1, 2, 3, 4, 5, 6, 7, 8, 9, 10, 11, 12] (by decide) rfl) hS dMD_cell_86
    · have h_g := z_yT hv1 h_g
      have h_g2 := h_g
      have h_g3 : ((1 ≤ a.toInt ∧ a.toInt ≤ 6) ∧ (0 ≤ b.toInt ∧ b.toInt ≤ 6)) ∧ ((0 ≤ c1.toInt ∧ c1.toInt ≤ d1.toInt) ∧ d1.toInt ≤ 1000) ∧ (0 ≤ e1.toInt ∧ e1.toInt ≤ 1000) := h_g
      obtain ⟨a_v, hz_a, rfl⟩ := z_ofIn (c := a) (n := 1001) (by omega) (by omega) (by omega)
      obtain ⟨b_v, hz_b, rfl⟩ := z_ofIn (c := b) (n := 1001) (by omega) (by omega) (by omega)
      obtain ⟨c1_v, hz_c1, rfl⟩ := z_ofIn (c := c1) (n := 1001) (by omega) (by omega) (by omega)
      obtain ⟨d1_v, hz_d1, rfl⟩ := z_ofIn (c := d1) (n := 1001) (by omega) (by omega) (by omega)
      obtain ⟨e1_v, hz_e1, rfl⟩ := z_ofIn (c := e1) (n := 1001) (by omega) (by omega) (by omega)
      have tz_a := nI_toInt (n := a_v) (by omega)
      have tz_b := nI_toInt (n := b_v) (by omega)
      have tz_c1 := nI_toInt (n := c1_v) (by omega)
      have tz_d1 := nI_toInt (n := d1_v) (by omega)
      have tz_e1 := nI_toInt (n := e1_v) (by omega)
      refine lv_aload_n hx hb dMD_cell_63 rfl (lv_at hl 1 rfl) ?_
      refine va_get (D := (dC, dI)) (ci := 6) (v := .int (nI rg - nI 1)) (C := RMD) (T := TMD) (N := 26) hx hb hz in_MD hown hK hP 0 rfl rfl 14 (by decide) (hz _ wd_598) (fun _ h9 => h9) rfl dMD_cell_64 ?_
      refine lv_aload_n hx hb dMD_cell_67 rfl (lv_at hl 1 rfl) ?_
      refine va_get (D := (dC, dI)) (ci := 6) (v := .int (nI mg)) (C := RMD) (T := TMD) (N := 26) hx hb hz in_MD hown hK hP 0 rfl rfl 0 (by decide) (hz _ wd_584) (fun _ h9 => h9) rfl dMD_cell_68 ?_
      refine lv_iconst (v := nI 1) hx hb dMD_cell_71 (by decide) ?_
      refine lv_isub hx hb dMD_cell_72 ?_
      have t2 := pk_sub_toInt (a := rg) (b := 1) (by omega) (by omega)
      have t3 := pk_sub_toInt (a := mg) (b := 1) (by omega) (by omega)
      refine lv_icmp_ne (tgt := 85) hx hb dMD_cell_73 rfl (fun h_w => ?_) (fun h_w => ?_)
      · have h_w := z_ne h_w
        refine lv_iconst (v := (-1)) hx hb dMD_cell_85 (by decide) ?_
        subst hQ
        exact zw_iret (D := (dC, dI)) (cl := vwCl) (A := A) (n, ro, mm) hx hb hr hlocks (Or.inl ⟨fun h9 => by have := h9.2.1; omega, rfl, rfl, rfl, rfl⟩) (hP.sub [0, 1, 2, 3, 4, 5, 6, 7, 8, 9, 10, 11, 12] rfl) (hK.sub [] rfl) (hD.sub [0, 1, 2, 3, 4, 5, 6, 7, 8, 9, 10, 11, 12] (by decide) rfl) hS dMD_cell_86
      · have h_w := z_eq h_w
        refine lv_aload_n hx hb dMD_cell_76 rfl (lv_at hl 1 rfl) ?_
        refine va_get (D := (dC, dI)) (ci := 6) (v := .int (nI n)) (C := RMD) (T := TMD) (N := 26) hx hb hz in_MD hown hK hP 0 rfl rfl 3 (by decide) (hz _ wd_587) (fun _ h9 => h9) rfl dMD_cell_77 ?_
        refine lv_bipush (v := nI 40) hx hb dMD_cell_80 (by decide) ?_
        have t5 := nI_toInt (n := n) (by omega)
        have t6 := nI_toInt (n := 40) (by omega)
        refine lv_icmp_ne (tgt := 87) hx hb dMD_cell_82 rfl (fun h_n => ?_) (fun h_n => ?_)
        · have h_n := z_ne h_n
          refine lv_aload_n hx hb dMD_cell_87 rfl (lv_at hl 1 rfl) ?_
          refine va_get (D := (dC, dI)) (ci := 6) (v := .int (nI ro)) (C := RMD) (T := TMD) (N := 26) hx hb hz in_MD hown hK hP 0 rfl rfl 16 (by decide) (hz _ wd_600) (fun _ h9 => h9) rfl dMD_cell_88 ?_
          refine lv_istore hx hb dMD_cell_91 hl (Nat.le_of_ble_eq_true rfl) rfl (fun ls hl => ?_)
          have hl : lv_has ls 9 [(7, .int (nI ro)), (6, .int v1), (0, .ref h0), (1, .int (nI a_v)), (2, .int (nI b_v)), (3, .int (nI c1_v)), (4, .int (nI d1_v)), (5, .int (nI e1_v))] := hl
          refine zl_up (σ := Unit) 12 (fun i x9 ls => lv_has ls 9 [(7, .int (nI i)), (6, .int v1), (5, .int (nI e1_v)), (4, .int (nI d1_v)), (3, .int (nI c1_v)), (2, .int (nI b_v)), (1, .int (nI a_v)), (0, .ref h0)] ∧ (ro ≤ i ∧ ∀ j, ro ≤ j → j < i → ∃ k, k < n ∧ zIt mm rg rn j k)) ?_ ?_ ro (hro) () ls ⟨lv_sub hl [0, 1, 7, 6, 5, 4, 3, 2] rfl, Nat.le_refl _, fun j h1 h2 => absurd h2 (by omega)⟩
          · intro x9 ls hI
            obtain ⟨hl, hxr, hxI⟩ := hI
            have hl : lv_has ls 9 [(7, .int (nI 12)), (6, .int v1), (5, .int (nI e1_v)), (4, .int (nI d1_v)), (3, .int (nI c1_v)), (2, .int (nI b_v)), (1, .int (nI a_v)), (0, .ref h0)] := hl
            refine lv_iload hx hb dMD_cell_93 (lv_at hl 0 rfl) ?_
            refine lv_bipush (v := nI 12) hx hb dMD_cell_95 (by decide) ?_
            refine lv_icmp_ge (tgt := 118) hx hb dMD_cell_97 rfl (fun _ => ?_) (fun h => absurd (by decide) h)
            refine lv_iload hx hb dMD_cell_118 (lv_at hl 0 rfl) ?_
            refine lv_iload_n hx hb dMD_cell_120 rfl (lv_at hl 6 rfl) ?_
            refine lv_iadd hx hb dMD_cell_121 ?_
            refine lv_topi (fun x8 e9 => ?_)
            have e9 : x8 = nI (12 + a_v) := e9.trans (nI_add _ _)
            subst e9
            refine lv_bipush (v := nI 12) hx hb dMD_cell_122 (by decide) ?_
            have t10 := nI_toInt (n := 12 + a_v) (by omega)
            have t11 := nI_toInt (n := 12) (by omega)
            refine lv_icmp_gt (tgt := 138) hx hb dMD_cell_124 rfl (fun h12 => ?_) (fun h12 => ?_)
            · have h12 := z_lt h12
              refine lv_iconst (v := (-1)) hx hb dMD_cell_138 (by decide) ?_
              subst hQ
              exact zw_iret (D := (dC, dI)) (cl := vwCl) (A := A) (n, ro, mm) hx hb hr hlocks (Or.inr ⟨⟨h_g2, by omega, by omega⟩, 12, a_v, b_v, c1_v, d1_v, e1_v, ⟨by omega, by omega, hxI, fun h9 => absurd h9 (by omega)⟩, rfl, rfl, rfl, rfl, rfl, Or.inl ⟨by omega, rfl, rfl, rfl, rfl⟩⟩) (hP.sub [0, 1, 2, 3, 4, 5, 6, 7, 8, 9, 10, 11, 12] rfl) (hK.sub [] rfl) (hD.sub [0, 1, 2, 3, 4, 5, 6, 7, 8, 9, 10, 11, 12] (by decide) rfl) hS dMD_cell_139
            · have h12 := z_nlt h12
              refine lv_aload_n hx hb dMD_cell_127 rfl (lv_at hl 7 rfl) ?_
              refine va_get (D := (dC, dI)) (ci := 6) (v := .int (nI rn)) (C := RMD) (T := TMD) (N := 26) hx hb hz in_MD hown hK hP 0 rfl rfl 15 (by decide) (hz _ wd_599) (fun _ h9 => h9) rfl dMD_cell_128 ?_
              refine lv_iload_n hx hb dMD_cell_131 rfl (lv_at hl 5 rfl) ?_
              refine lv_iadd hx hb dMD_cell_132 ?_
              refine lv_topi (fun x13 e14 => ?_)
              have e14 : x13 = nI (rn + b_v) := e14.trans (nI_add _ _)
              subst e14
              refine lv_bipush (v := nI 12) hx hb dMD_cell_133 (by decide) ?_
              have t15 := nI_toInt (n := rn + b_v) (by omega)
              have t16 := nI_toInt (n := 12) (by omega)
              refine lv_icmp_le (tgt := 140) hx hb dMD_cell_135 rfl (fun h17 => ?_) (fun h17 => ?_)
              · have h17 := z_le h17
                refine lv_aload_n hx hb dMD_cell_140 rfl (lv_at hl 7 rfl) ?_
                refine va_get (D := (dC, dI)) (ci := 6) (v := .int (nI n)) (C := RMD) (T := TMD) (N := 26) hx hb hz in_MD hown hK hP 0 rfl rfl 3 (by decide) (hz _ wd_587) (fun _ h9 => h9) rfl dMD_cell_141 ?_
                refine lv_istore hx hb dMD_cell_144 hl (Nat.le_of_ble_eq_true rfl) rfl (fun ls hl => ?_)
                have hl : lv_has ls 9 [(8, .int (nI n)), (7, .int (nI 12)), (6, .int v1), (5, .int (nI e1_v)), (4, .int (nI d1_v)), (3, .int (nI c1_v)), (2, .int (nI b_v)), (1, .int (nI a_v)), (0, .ref h0)] := hl
                refine lv_aload_n hx hb dMD_cell_146 rfl (lv_at hl 8 rfl) ?_
                refine va_get (D := (dC, dI)) (ci := 6) (v := .ref b2) (C := RMD) (T := TMD) (N := 26) hx hb hz in_MD hown hK hP 0 rfl rfl 4 (by decide) (hz _ wd_588) (fun _ h9 => h9) rfl dMD_cell_147 ?_
                refine lv_iload hx hb dMD_cell_150 (lv_at hl 0 rfl) ?_
                refine lv_iload hx hb dMD_cell_152 (lv_at hl 1 rfl) ?_
                refine va_iast hx hb hK hP hD hS 3 2 rfl rfl (vp_in_nI (by omega) (by omega)) dMD_cell_154 (fun H locs hP hD hS => ?_)
                have e_u := z_upd (f := mm 2) (k := n) (v := 12) (by omega)
                have hP : va_P (dC, dI) vwCl [(h0, .inr (6, [.int (nI mg), .ref b0, .ref b1, .int (nI n), .ref b2, .ref b3, .ref b4, .ref b5, .ref b6, .ref b7, .ref b8, .ref b9, .ref b10, .ref b11, .int (nI rg - nI 1), .int (nI rn), .int (nI ro), .int (nI sp), .int (nI gp), .int (nI fx), .ref b12, .ref b13, .ref b14, .ref b15, .ref b16, .ref b17])), (b0, .inl (kb0, 8, .inl (fun j => nI (mm 0 j)))), (b1, .inl (kb1, 8, .inl (fun j => nI (mm 1 j)))), (b2, .inl (kb2, 40, .inl (fun j => nI (va_up (mm 2) n 12 j)))), (b3, .inl (kb3, 40, .inl (fun j => nI (mm 3 j)))), (b4, .inl (kb4, 40, .inl (fun j => nI (mm 4 j)))), (b5, .inl (kb5, 40, .inl (fun j => nI (mm 5 j)))), (b6, .inl (kb6, 40, .inl (fun j => nI (mm 6 j)))), (b7, .inl (kb7, 40, .inl (fun j => nI (mm 7 j)))), (b8, .inl (kb8, 40, .inl (fun j => nI (mm 8 j)))), (b9, .inl (kb9, 40, .inl (fun j => nI (mm 9 j)))), (b10, .inl (kb10, 40, .inl (fun j => nI (mm 10 j)))), (b11, .inl (kb11, 40, .inl (fun j => nI (mm 11 j))))] H := by rw [← e_u]; exact hP
                have hD : va_D A [(h0, .inr (6, [.int (nI mg), .ref b0, .ref b1, .int (nI n), .ref b2, .ref b3, .ref b4, .ref b5, .ref b6, .ref b7, .ref b8, .ref b9, .ref b10, .ref b11, .int (nI rg - nI 1), .int (nI rn), .int (nI ro), .int (nI sp), .int (nI gp), .int (nI fx), .ref b12, .ref b13, .ref b14, .ref b15, .ref b16, .ref b17])), (b0, .inl (kb0, 8, .inl (fun j => nI (mm 0 j)))), (b1, .inl (kb1, 8, .inl (fun j => nI (mm 1 j)))), (b2, .inl (kb2, 40, .inl (fun j => nI (va_up (mm 2) n 12 j)))), (b3, .inl (kb3, 40, .inl (fun j => nI (mm 3 j)))), (b4, .inl (kb4, 40, .inl (fun j => nI (mm 4 j)))), (b5, .inl (kb5, 40, .inl (fun j => nI (mm 5 j)))), (b6, .inl (kb6, 40, .inl (fun j => nI (mm 6 j)))), (b7, .inl (kb7, 40, .inl (fun j => nI (mm 7 j)))), (b8, .inl (kb8, 40, .inl (fun j => nI (mm 8 j)))), (b9, .inl (kb9, 40, .inl (fun j => nI (mm 9 j)))), (b10, .inl (kb10, 40, .inl (fun j => nI (mm 10 j)))), (b11, .inl (kb11, 40, .inl (fun j => nI (mm 11 j))))] := by rw [← e_u]; exact hD
                refine lv_aload_n hx hb dMD_cell_155 rfl (lv_at hl 8 rfl) ?_
                refine va_get (D := (dC, dI)) (ci := 6) (v := .ref b3) (C := RMD) (T := TMD) (N := 26) hx hb hz in_MD hown hK hP 0 rfl rfl 5 (by decide) (hz _ wd_589) (fun _ h9 => h9) rfl dMD_cell_156 ?_
                refine lv_iload hx hb dMD_cell_159 (lv_at hl 0 rfl) ?_
                refine lv_aload_n hx hb dMD_cell_161 rfl (lv_at hl 8 rfl) ?_
                refine va_get (D := (dC, dI)) (ci := 6) (v := .int (nI rn)) (C := RMD) (T := TMD) (N := 26) hx hb hz in_MD hown hK hP 0 rfl rfl 15 (by decide) (hz _ wd_599) (fun _ h9 => h9) rfl dMD_cell_162 ?_
                refine va_iast hx hb hK hP hD hS 4 3 rfl rfl (vp_in_nI (by omega) (by omega)) dMD_cell_165 (fun H locs hP hD hS => ?_)
                have e_u := z_upd (f := mm 3) (k := n) (v := rn) (by omega)
                have hP : va_P (dC, dI) vwCl [(h0, .inr (6, [.int (nI mg), .ref b0, .ref b1, .int (nI n), .ref b2, .ref b3, .ref b4, .ref b5, .ref b6, .ref b7, .ref b8, .ref b9, .ref b10, .ref b11, .int (nI rg - nI 1), .int (nI rn), .int (nI ro), .int (nI sp), .int (nI gp), .int (nI fx), .ref b12, .ref b13, .ref b14, .ref b15, .ref b16, .ref b17])), (b0, .inl (kb0, 8, .inl (fun j => nI (mm 0 j)))), (b1, .inl (kb1, 8, .inl (fun j => nI (mm 1 j)))), (b2, .inl (kb2, 40, .inl (fun j => nI (va_up (mm 2) n 12 j)))), (b3, .inl (kb3, 40, .inl (fun j => nI (va_up (mm 3) n rn j)))), (b4, .inl (kb4, 40, .inl (fun j => nI (mm 4 j)))), (b5, .inl (kb5, 40, .inl (fun j => nI (mm 5 j)))), (b6, .inl (kb6, 40, .inl (fun j => nI (mm 6 j)))), (b7, .inl (kb7, 40, .inl (fun j => nI (mm 7 j)))), (b8, .inl (kb8, 40, .inl (fun j => nI (mm 8 j)))), (b9, .inl (kb9, 40, .inl (fun j => nI (mm 9 j)))), (b10, .inl (kb10, 40, .inl (fun j => nI (mm 10 j)))), (b11, .inl (kb11, 40, .inl (fun j => nI (mm 11 j))))] H := by rw [← e_u]; exact hP
                have hD : va_D A [(h0, .inr (6, [.int (nI mg), .ref b0, .ref b1, .int (nI n), .ref b2, .ref b3, .ref b4, .ref b5, .ref b6, .ref b7, .ref b8, .ref b9, .ref b10, .ref b11, .int (nI rg - nI 1), .int (nI rn), .int (nI ro), .int (nI sp), .int (nI gp), .int (nI fx), .ref b12, .ref b13, .ref b14, .ref b15, .ref b16, .ref b17])), (b0, .inl (kb0, 8, .inl (fun j => nI (mm 0 j)))), (b1, .inl (kb1, 8, .inl (fun j => nI (mm 1 j)))), (b2, .inl (kb2, 40, .inl (fun j => nI (va_up (mm 2) n 12 j)))), (b3, .inl (kb3, 40, .inl (fun j => nI (va_up (mm 3) n rn j)))), (b4, .inl (kb4, 40, .inl (fun j => nI (mm 4 j)))), (b5, .inl (kb5, 40, .inl (fun j => nI (mm 5 j)))), (b6, .inl (kb6, 40, .inl (fun j => nI (mm 6 j)))), (b7, .inl (kb7, 40, .inl (fun j => nI (mm 7 j)))), (b8, .inl (kb8, 40, .inl (fun j => nI (mm 8 j)))), (b9, .inl (kb9, 40, .inl (fun j => nI (mm 9 j)))), (b10, .inl (kb10, 40, .inl (fun j => nI (mm 10 j)))), (b11, .inl (kb11, 40, .inl (fun j => nI (mm 11 j))))] := by rw [← e_u]; exact hD
                refine lv_aload_n hx hb dMD_cell_166 rfl (lv_at hl 8 rfl) ?_
                refine va_get (D := (dC, dI)) (ci := 6) (v := .ref b4) (C := RMD) (T := TMD) (N := 26) hx hb hz in_MD hown hK hP 0 rfl rfl 6 (by decide) (hz _ wd_590) (fun _ h9 => h9) rfl dMD_cell_167 ?_
                refine lv_iload hx hb dMD_cell_170 (lv_at hl 0 rfl) ?_
                refine lv_iload_n hx hb dMD_cell_172 rfl (lv_at hl 7 rfl) ?_
                refine va_iast hx hb hK hP hD hS 5 4 rfl rfl (vp_in_nI (by omega) (by omega)) dMD_cell_173 (fun H locs hP hD hS => ?_)
                have e_u := z_upd (f := mm 4) (k := n) (v := a_v) (by omega)
                have hP : va_P (dC, dI) vwCl [(h0, .inr (6, [.int (nI mg), .ref b0, .ref b1, .int (nI n), .ref b2, .ref b3, .ref b4, .ref b5, .ref b6, .ref b7, .ref b8, .ref b9, .ref b10, .ref b11, .int (nI rg - nI 1), .int (nI rn), .int (nI ro), .int (nI sp), .int (nI gp), .int (nI fx), .ref b12, .ref b13, .ref b14, .ref b15, .ref b16, .ref b17])), (b0, .inl (kb0, 8, .inl (fun j => nI (mm 0 j)))), (b1, .inl (kb1, 8, .inl (fun j => nI (mm 1 j)))), (b2, .inl (kb2, 40, .inl (fun j => nI (va_up (mm 2) n 12 j)))), (b3, .inl (kb3, 40, .inl (fun j => nI (va_up (mm 3) n rn j)))), (b4, .inl (kb4, 40, .inl (fun j => nI (va_up (mm 4) n a_v j)))), (b5, .inl (kb5, 40, .inl (fun j => nI (mm 5 j)))), (b6, .inl (kb6, 40, .inl (fun j => nI (mm 6 j)))), (b7, .inl (kb7, 40, .inl (fun j => nI (mm 7 j)))), (b8, .inl (kb8, 40, .inl (fun j => nI (mm 8 j)))), (b9, .inl (kb9, 40, .inl (fun j => nI (mm 9 j)))), (b10, .inl (kb10, 40, .inl (fun j => nI (mm 10 j)))), (b11, .inl (kb11, 40, .inl (fun j => nI (mm 11 j))))] H := by rw [← e_u]; exact hP
                have hD : va_D A [(h0, .inr (6, [.int (nI mg), .ref b0, .ref b1, .int (nI n), .ref b2, .ref b3, .ref b4, .ref b5, .ref b6, .ref b7, .ref b8, .ref b9, .ref b10, .ref b11, .int (nI rg - nI 1), .int (nI rn), .int (nI ro), .int (nI sp), .int (nI gp), .int (nI fx), .ref b12, .ref b13, .ref b14, .ref b15, .ref b16, .ref b17])), (b0, .inl (kb0, 8, .inl (fun j => nI (mm 0 j)))), (b1, .inl (kb1, 8, .inl (fun j => nI (mm 1 j)))), (b2, .inl (kb2, 40, .inl (fun j => nI (va_up (mm 2) n 12 j)))), (b3, .inl (kb3, 40, .inl (fun j => nI (va_up (mm 3) n rn j)))), (b4, .inl (kb4, 40, .inl (fun j => nI (va_up (mm 4) n a_v j)))), (b5, .inl (kb5, 40, .inl (fun j => nI (mm 5 j)))), (b6, .inl (kb6, 40, .inl (fun j => nI (mm 6 j)))), (b7, .inl (kb7, 40, .inl (fun j => nI (mm 7 j)))), (b8, .inl (kb8, 40, .inl (fun j => nI (mm 8 j)))), (b9, .inl (kb9, 40, .inl (fun j => nI (mm 9 j)))), (b10, .inl (kb10, 40, .inl (fun j => nI (mm 10 j)))), (b11, .inl (kb11, 40, .inl (fun j => nI (mm 11 j))))] := by rw [← e_u]; exact hD
                refine lv_aload_n hx hb dMD_cell_174 rfl (lv_at hl 8 rfl) ?_
                refine va_get (D := (dC, dI)) (ci := 6) (v := .ref b5) (C := RMD) (T := TMD) (N := 26) hx hb hz in_MD hown hK hP 0 rfl rfl 7 (by decide) (hz _ wd_591) (fun _ h9 => h9) rfl dMD_cell_175 ?_
                refine lv_iload hx hb dMD_cell_178 (lv_at hl 0 rfl) ?_
                refine lv_iload_n hx hb dMD_cell_180 rfl (lv_at hl 6 rfl) ?_
                refine va_iast hx hb hK hP hD hS 6 5 rfl rfl (vp_in_nI (by omega) (by omega)) dMD_cell_181 (fun H locs hP hD hS => ?_)
                have e_u := z_upd (f := mm 5) (k := n) (v := b_v) (by omega)
                have hP : va_P (dC, dI) vwCl [(h0, .inr (6, [.int (nI mg), .ref b0, .ref b1, .int (nI n), .ref b2, .ref b3, .ref b4, .ref b5, .ref b6, .ref b7, .ref b8, .ref b9, .ref b10, .ref b11, .int (nI rg - nI 1), .int (nI rn), .int (nI ro), .int (nI sp), .int (nI gp), .int (nI fx), .ref b12, .ref b13, .ref b14, .ref b15, .ref b16, .ref b17])), (b0, .inl (kb0, 8, .inl (fun j => nI (mm 0 j)))), (b1, .inl (kb1, 8, .inl (fun j => nI (mm 1 j)))), (b2, .inl (kb2, 40, .inl (fun j => nI (va_up (mm 2) n 12 j)))), (b3, .inl (kb3, 40, .inl (fun j => nI (va_up (mm 3) n rn j)))), (b4, .inl (kb4, 40, .inl (fun j => nI (va_up (mm 4) n a_v j)))), (b5, .inl (kb5, 40, .inl (fun j => nI (va_up (mm 5) n b_v j)))), (b6, .inl (kb6, 40, .inl (fun j => nI (mm 6 j)))), (b7, .inl (kb7, 40, .inl (fun j => nI (mm 7 j)))), (b8, .inl (kb8, 40, .inl (fun j => nI (mm 8 j)))), (b9, .inl (kb9, 40, .inl (fun j => nI (mm 9 j)))), (b10, .inl (kb10, 40, .inl (fun j => nI (mm 10 j)))), (b11, .inl (kb11, 40, .inl (fun j => nI (mm 11 j))))] H := by rw [← e_u]; exact hP
                have hD : va_D A [(h0, .inr (6, [.int (nI mg), .ref b0, .ref b1, .int (nI n), .ref b2, .ref b3, .ref b4, .ref b5, .ref b6, .ref b7, .ref b8, .ref b9, .ref b10, .ref b11, .int (nI rg - nI 1), .int (nI rn), .int (nI ro), .int (nI sp), .int (nI gp), .int (nI fx), .ref b12, .ref b13, .ref b14, .ref b15, .ref b16, .ref b17])), (b0, .inl (kb0, 8, .inl (fun j => nI (mm 0 j)))), (b1, .inl (kb1, 8, .inl (fun j => nI (mm 1 j)))), (b2, .inl (kb2, 40, .inl (fun j => nI (va_up (mm 2) n 12 j)))), (b3, .inl (kb3, 40, .inl (fun j => nI (va_up (mm 3) n rn j)))), (b4, .inl (kb4, 40, .inl (fun j => nI (va_up (mm 4) n a_v j)))), (b5, .inl (kb5, 40, .inl (fun j => nI (va_up (mm 5) n b_v j)))), (b6, .inl (kb6, 40, .inl (fun j => nI (mm 6 j)))), (b7, .inl (kb7, 40, .inl (fun j => nI (mm 7 j)))), (b8, .inl (kb8, 40, .inl (fun j => nI (mm 8 j)))), (b9, .inl (kb9, 40, .inl (fun j => nI (mm 9 j)))), (b10, .inl (kb10, 40, .inl (fun j => nI (mm 10 j)))), (b11, .inl (kb11, 40, .inl (fun j => nI (mm 11 j))))] := by rw [← e_u]; exact hD
                refine lv_aload_n hx hb dMD_cell_182 rfl (lv_at hl 8 rfl) ?_
                refine va_get (D := (dC, dI)) (ci := 6) (v := .ref b6) (C := RMD) (T := TMD) (N := 26) hx hb hz in_MD hown hK hP 0 rfl rfl 8 (by decide) (hz _ wd_592) (fun _ h9 => h9) rfl dMD_cell_183 ?_
                refine lv_iload hx hb dMD_cell_186 (lv_at hl 0 rfl) ?_
                refine lv_aload_n hx hb dMD_cell_188 rfl (lv_at hl 8 rfl) ?_
                refine va_get (D := (dC, dI)) (ci := 6) (v := .int (nI rg - nI 1)) (C := RMD) (T := TMD) (N := 26) hx hb hz in_MD hown hK hP 0 rfl rfl 14 (by decide) (hz _ wd_598) (fun _ h9 => h9) rfl dMD_cell_189 ?_
                refine lv_topi (fun x18 e19 => ?_)
                have e19 : x18 = nI (rg - 1) := e19.trans (pk_sub (by omega))
                subst e19
                refine va_iast hx hb hK hP hD hS 7 6 rfl rfl (vp_in_nI (by omega) (by omega)) dMD_cell_192 (fun H locs hP hD hS => ?_)
                have e_u := z_upd (f := mm 6) (k := n) (v := rg - 1) (by omega)
                have hP : va_P (dC, dI) vwCl [(h0, .inr (6, [.int (nI mg), .ref b0, .ref b1, .int (nI n), .ref b2, .ref b3, .ref b4, .ref b5, .ref b6, .ref b7, .ref b8, .ref b9, .ref b10, .ref b11, .int (nI rg - nI 1), .int (nI rn), .int (nI ro), .int (nI sp), .int (nI gp), .int (nI fx), .ref b12, .ref b13, .ref b14, .ref b15, .ref b16, .ref b17])), (b0, .inl (kb0, 8, .inl (fun j => nI (mm 0 j)))), (b1, .inl (kb1, 8, .inl (fun j => nI (mm 1 j)))), (b2, .inl (kb2, 40, .inl (fun j => nI (va_up (mm 2) n 12 j)))), (b3, .inl (kb3, 40, .inl (fun j => nI (va_up (mm 3) n rn j)))), (b4, .inl (kb4, 40, .inl (fun j => nI (va_up (mm 4) n a_v j)))), (b5, .inl (kb5, 40, .inl (fun j => nI (va_up (mm 5) n b_v j)))), (b6, .inl (kb6, 40, .inl (fun j => nI (va_up (mm 6) n (rg - 1) j)))), (b7, .inl (kb7, 40, .inl (fun j => nI (mm 7 j)))), (b8, .inl (kb8, 40, .inl (fun j => nI (mm 8 j)))), (b9, .inl (kb9, 40, .inl (fun j => nI (mm 9 j)))), (b10, .inl (kb10, 40, .inl (fun j => nI (mm 10 j)))), (b11, .inl (kb11, 40, .inl (fun j => nI (mm 11 j))))] H := by rw [← e_u]; exact hP
                have hD : va_D A [(h0, .inr (6, [.int (nI mg), .ref b0, .ref b1, .int (nI n), .ref b2, .ref b3, .ref b4, .ref b5, .ref b6, .ref b7, .ref b8, .ref b9, .ref b10, .ref b11, .int (nI rg - nI 1), .int (nI rn), .int (nI ro), .int (nI sp), .int (nI gp), .int (nI fx), .ref b12, .ref b13, .ref b14, .ref b15, .ref b16, .ref b17])), (b0, .inl (kb0, 8, .inl (fun j => nI (mm 0 j)))), (b1, .inl (kb1, 8, .inl (fun j => nI (mm 1 j)))), (b2, .inl (kb2, 40, .inl (fun j => nI (va_up (mm 2) n 12 j)))), (b3, .inl (kb3, 40, .inl (fun j => nI (va_up (mm 3) n rn j)))), (b4, .inl (kb4, 40, .inl (fun j => nI (va_up (mm 4) n a_v j)))), (b5, .inl (kb5, 40, .inl (fun j => nI (va_up (mm 5) n b_v j)))), (b6, .inl (kb6, 40, .inl (fun j => nI (va_up (mm 6) n (rg - 1) j)))), (b7, .inl (kb7, 40, .inl (fun j => nI (mm 7 j)))), (b8, .inl (kb8, 40, .inl (fun j => nI (mm 8 j)))), (b9, .inl (kb9, 40, .inl (fun j => nI (mm 9 j)))), (b10, .inl (kb10, 40, .inl (fun j => nI (mm 10 j)))), (b11, .inl (kb11, 40, .inl (fun j => nI (mm 11 j))))] := by rw [← e_u]; exact hD
                refine lv_aload_n hx hb dMD_cell_193 rfl (lv_at hl 8 rfl) ?_
                refine va_get (D := (dC, dI)) (ci := 6) (v := .ref b7) (C := RMD) (T := TMD) (N := 26) hx hb hz in_MD hown hK hP 0 rfl rfl 9 (by decide) (hz _ wd_593) (fun _ h9 => h9) rfl dMD_cell_194 ?_
                refine lv_iload hx hb dMD_cell_197 (lv_at hl 0 rfl) ?_
                refine lv_iload_n hx hb dMD_cell_199 rfl (lv_at hl 5 rfl) ?_
                refine va_iast hx hb hK hP hD hS 8 7 rfl rfl (vp_in_nI (by omega) (by omega)) dMD_cell_200 (fun H locs hP hD hS => ?_)
                have e_u := z_upd (f := mm 7) (k := n) (v := c1_v) (by omega)
                have hP : va_P (dC, dI) vwCl [(h0, .inr (6, [.int (nI mg), .ref b0, .ref b1, .int (nI n), .ref b2, .ref b3, .ref b4, .ref b5, .ref b6, .ref b7, .ref b8, .ref b9, .ref b10, .ref b11, .int (nI rg - nI 1), .int (nI rn), .int (nI ro), .int (nI sp), .int (nI gp), .int (nI fx), .ref b12, .ref b13, .ref b14, .ref b15, .ref b16, .ref b17])), (b0, .inl (kb0, 8, .inl (fun j => nI (mm 0 j)))), (b1, .inl (kb1, 8, .inl (fun j => nI (mm 1 j)))), (b2, .inl (kb2, 40, .inl (fun j => nI (va_up (mm 2) n 12 j)))), (b3, .inl (kb3, 40, .inl (fun j => nI (va_up (mm 3) n rn j)))), (b4, .inl (kb4, 40, .inl (fun j => nI (va_up (mm 4) n a_v j)))), (b5, .inl (kb5, 40, .inl (fun j => nI (va_up (mm 5) n b_v j)))), (b6, .inl (kb6, 40, .inl (fun j => nI (va_up (mm 6) n (rg - 1) j)))), (b7, .inl (kb7, 40, .inl (fun j => nI (va_up (mm 7) n c1_v j)))), (b8, .inl (kb8, 40, .inl (fun j => nI (mm 8 j)))), (b9, .inl (kb9, 40, .inl (fun j => nI (mm 9 j)))), (b10, .inl (kb10, 40, .inl (fun j => nI (mm 10 j)))), (b11, .inl (kb11, 40, .inl (fun j => nI (mm 11 j))))] H := by rw [← e_u]; exact hP
                have hD : va_D A [(h0, .inr (6, [.int (nI mg), .ref b0, .ref b1, .int (nI n), .ref b2, .ref b3, .ref b4, .ref b5, .ref b6, .ref b7, .ref b8, .ref b9, .ref b10, .ref b11, .int (nI rg - nI 1), .int (nI rn), .int (nI ro), .int (nI sp), .int (nI gp), .int (nI fx), .ref b12, .ref b13, .ref b14, .ref b15, .ref b16, .ref b17])), (b0, .inl (kb0, 8, .inl (fun j => nI (mm 0 j)))), (b1, .inl (kb1, 8, .inl (fun j => nI (mm 1 j)))), (b2, .inl (kb2, 40, .inl (fun j => nI (va_up (mm 2) n 12 j)))), (b3, .inl (kb3, 40, .inl (fun j => nI (va_up (mm 3) n rn j)))), (b4, .inl (kb4, 40, .inl (fun j => nI (va_up (mm 4) n a_v j)))), (b5, .inl (kb5, 40, .inl (fun j => nI (va_up (mm 5) n b_v j)))), (b6, .inl (kb6, 40, .inl (fun j => nI (va_up (mm 6) n (rg - 1) j)))), (b7, .inl (kb7, 40, .inl (fun j => nI (va_up (mm 7) n c1_v j)))), (b8, .inl (kb8, 40, .inl (fun j => nI (mm 8 j)))), (b9, .inl (kb9, 40, .inl (fun j => nI (mm 9 j)))), (b10, .inl (kb10, 40, .inl (fun j => nI (mm 10 j)))), (b11, .inl (kb11, 40, .inl (fun j => nI (mm 11 j))))] := by rw [← e_u]; exact hD
                refine lv_aload_n hx hb dMD_cell_201 rfl (lv_at hl 8 rfl) ?_
                refine va_get (D := (dC, dI)) (ci := 6) (v := .ref b8) (C := RMD) (T := TMD) (N := 26) hx hb hz in_MD hown hK hP 0 rfl rfl 10 (by decide) (hz _ wd_594) (fun _ h9 => h9) rfl dMD_cell_202 ?_
                refine lv_iload hx hb dMD_cell_205 (lv_at hl 0 rfl) ?_
                refine lv_iload hx hb dMD_cell_207 (lv_at hl 4 rfl) ?_
                refine va_iast hx hb hK hP hD hS 9 8 rfl rfl (vp_in_nI (by omega) (by omega)) dMD_cell_209 (fun H locs hP hD hS => ?_)
                have e_u := z_upd (f := mm 8) (k := n) (v := d1_v) (by omega)
                have hP : va_P (dC, dI) vwCl [(h0, .inr (6, [.int (nI mg), .ref b0, .ref b1, .int (nI n), .ref b2, .ref b3, .ref b4, .ref b5, .ref b6, .ref b7, .ref b8, .ref b9, .ref b10, .ref b11, .int (nI rg - nI 1), .int (nI rn), .int (nI ro), .int (nI sp), .int (nI gp), .int (nI fx), .ref b12, .ref b13, .ref b14, .ref b15, .ref b16, .ref b17])), (b0, .inl (kb0, 8, .inl (fun j => nI (mm 0 j)))), (b1, .inl (kb1, 8, .inl (fun j => nI (mm 1 j)))), (b2, .inl (kb2, 40, .inl (fun j => nI (va_up (mm 2) n 12 j)))), (b3, .inl (kb3, 40, .inl (fun j => nI (va_up (mm 3) n rn j)))), (b4, .inl (kb4, 40, .inl (fun j => nI (va_up (mm 4) n a_v j)))), (b5, .inl (kb5, 40, .inl (fun j => nI (va_up (mm 5) n b_v j)))), (b6, .inl (kb6, 40, .inl (fun j => nI (va_up (mm 6) n (rg - 1) j)))), (b7, .inl (kb7, 40, .inl (fun j => nI (va_up (mm 7) n c1_v j)))), (b8, .inl (kb8, 40, .inl (fun j => nI (va_up (mm 8) n d1_v j)))), (b9, .inl (kb9, 40, .inl (fun j => nI (mm 9 j)))), (b10, .inl (kb10, 40, .inl (fun j => nI (mm 10 j)))), (b11, .inl (kb11, 40, .inl (fun j => nI (mm 11 j))))] H := by rw [← e_u]; exact hP
                have hD : va_D A [(h0, .inr (6, [.int (nI mg), .ref b0, .ref b1, .int (nI n), .ref b2, .ref b3, .ref b4, .ref b5, .ref b6, .ref b7, .ref b8, .ref b9, .ref b10, .ref b11, .int (nI rg - nI 1), .int (nI rn), .int (nI ro), .int (nI sp), .int (nI gp), .int (nI fx), .ref b12, .ref b13, .ref b14, .ref b15, .ref b16, .ref b17])), (b0, .inl (kb0, 8, .inl (fun j => nI (mm 0 j)))), (b1, .inl (kb1, 8, .inl (fun j => nI (mm 1 j)))), (b2, .inl (kb2, 40, .inl (fun j => nI (va_up (mm 2) n 12 j)))), (b3, .inl (kb3, 40, .inl (fun j => nI (va_up (mm 3) n rn j)))), (b4, .inl (kb4, 40, .inl (fun j => nI (va_up (mm 4) n a_v j)))), (b5, .inl (kb5, 40, .inl (fun j => nI (va_up (mm 5) n b_v j)))), (b6, .inl (kb6, 40, .inl (fun j => nI (va_up (mm 6) n (rg - 1) j)))), (b7, .inl (kb7, 40, .inl (fun j => nI (va_up (mm 7) n c1_v j)))), (b8, .inl (kb8, 40, .inl (fun j => nI (va_up (mm 8) n d1_v j)))), (b9, .inl (kb9, 40, .inl (fun j => nI (mm 9 j)))), (b10, .inl (kb10, 40, .inl (fun j => nI (mm 10 j)))), (b11, .inl (kb11, 40, .inl (fun j => nI (mm 11 j))))] := by rw [← e_u]; exact hD
                refine lv_aload_n hx hb dMD_cell_210 rfl (lv_at hl 8 rfl) ?_
                refine va_get (D := (dC, dI)) (ci := 6) (v := .ref b9) (C := RMD) (T := TMD) (N := 26) hx hb hz in_MD hown hK hP 0 rfl rfl 11 (by decide) (hz _ wd_595) (fun _ h9 => h9) rfl dMD_cell_211 ?_
                refine lv_iload hx hb dMD_cell_214 (lv_at hl 0 rfl) ?_
                refine lv_iload hx hb dMD_cell_216 (lv_at hl 3 rfl) ?_
                refine va_iast hx hb hK hP hD hS 10 9 rfl rfl (vp_in_nI (by omega) (by omega)) dMD_cell_218 (fun H locs hP hD hS => ?_)
                have e_u := z_upd (f := mm 9) (k := n) (v := e1_v) (by omega)
                have hP : va_P (dC, dI) vwCl [(h0, .inr (6, [.int (nI mg), .ref b0, .ref b1, .int (nI n), .ref b2, .ref b3, .ref b4, .ref b5, .ref b6, .ref b7, .ref b8, .ref b9, .ref b10, .ref b11, .int (nI rg - nI 1), .int (nI rn), .int (nI ro), .int (nI sp), .int (nI gp), .int (nI fx), .ref b12, .ref b13, .ref b14, .ref b15, .ref b16, .ref b17])), (b0, .inl (kb0, 8, .inl (fun j => nI (mm 0 j)))), (b1, .inl (kb1, 8, .inl (fun j => nI (mm 1 j)))), (b2, .inl (kb2, 40, .inl (fun j => nI (va_up (mm 2) n 12 j)))), (b3, .inl (kb3, 40, .inl (fun j => nI (va_up (mm 3) n rn j)))), (b4, .inl (kb4, 40, .inl (fun j => nI (va_up (mm 4) n a_v j)))), (b5, .inl (kb5, 40, .inl (fun j => nI (va_up (mm 5) n b_v j)))), (b6, .inl (kb6, 40, .inl (fun j => nI (va_up (mm 6) n (rg - 1) j)))), (b7, .inl (kb7, 40, .inl (fun j => nI (va_up (mm 7) n c1_v j)))), (b8, .inl (kb8, 40, .inl (fun j => nI (va_up (mm 8) n d1_v j)))), (b9, .inl (kb9, 40, .inl (fun j => nI (va_up (mm 9) n e1_v j)))), (b10, .inl (kb10, 40, .inl (fun j => nI (mm 10 j)))), (b11, .inl (kb11, 40, .inl (fun j => nI (mm 11 j))))] H := by rw [← e_u]; exact hP
                have hD : va_D A [(h0, .inr (6, [.int (nI mg), .ref b0, .ref b1, .int (nI n), .ref b2, .ref b3, .ref b4, .ref b5, .ref b6, .ref b7, .ref b8, .ref b9, .ref b10, .ref b11, .int (nI rg - nI 1), .int (nI rn), .int (nI ro), .int (nI sp), .int (nI gp), .int (nI fx), .ref b12, .ref b13, .ref b14, .ref b15, .ref b16, .ref b17])), (b0, .inl (kb0, 8, .inl (fun j => nI (mm 0 j)))), (b1, .inl (kb1, 8, .inl (fun j => nI (mm 1 j)))), (b2, .inl (kb2, 40, .inl (fun j => nI (va_up (mm 2) n 12 j)))), (b3, .inl (kb3, 40, .inl (fun j => nI (va_up (mm 3) n rn j)))), (b4, .inl (kb4, 40, .inl (fun j => nI (va_up (mm 4) n a_v j)))), (b5, .inl (kb5, 40, .inl (fun j => nI (va_up (mm 5) n b_v j)))), (b6, .inl (kb6, 40, .inl (fun j => nI (va_up (mm 6) n (rg - 1) j)))), (b7, .inl (kb7, 40, .inl (fun j => nI (va_up (mm 7) n c1_v j)))), (b8, .inl (kb8, 40, .inl (fun j => nI (va_up (mm 8) n d1_v j)))), (b9, .inl (kb9, 40, .inl (fun j => nI (va_up (mm 9) n e1_v j)))), (b10, .inl (kb10, 40, .inl (fun j => nI (mm 10 j)))), (b11, .inl (kb11, 40, .inl (fun j => nI (mm 11 j))))] := by rw [← e_u]; exact hD
                refine lv_aload_n hx hb dMD_cell_219 rfl (lv_at hl 8 rfl) ?_
                refine va_get (D := (dC, dI)) (ci := 6) (v := .ref b10) (C := RMD) (T := TMD) (N := 26) hx hb hz in_MD hown hK hP 0 rfl rfl 12 (by decide) (hz _ wd_596) (fun _ h9 => h9) rfl dMD_cell_220 ?_
                refine lv_iload hx hb dMD_cell_223 (lv_at hl 0 rfl) ?_
                refine lv_iconst (v := nI 0) hx hb dMD_cell_225 (by decide) ?_
                refine va_iast hx hb hK hP hD hS 11 10 rfl rfl (vp_in_nI (by omega) (by omega)) dMD_cell_226 (fun H locs hP hD hS => ?_)
                have e_u := z_upd (f := mm 10) (k := n) (v := 0) (by omega)
                have hP : va_P (dC, dI) vwCl [(h0, .inr (6, [.int (nI mg), .ref b0, .ref b1, .int (nI n), .ref b2, .ref b3, .ref b4, .ref b5, .ref b6, .ref b7, .ref b8, .ref b9, .ref b10, .ref b11, .int (nI rg - nI 1), .int (nI rn), .int (nI ro), .int (nI sp), .int (nI gp), .int (nI fx), .ref b12, .ref b13, .ref b14, .ref b15, .ref b16, .ref b17])), (b0, .inl (kb0, 8, .inl (fun j => nI (mm 0 j)))), (b1, .inl (kb1, 8, .inl (fun j => nI (mm 1 j)))), (b2, .inl (kb2, 40, .inl (fun j => nI (va_up (mm 2) n 12 j)))), (b3, .inl (kb3, 40, .inl (fun j => nI (va_up (mm 3) n rn j)))), (b4, .inl (kb4, 40, .inl (fun j => nI (va_up (mm 4) n a_v j)))), (b5, .inl (kb5, 40, .inl (fun j => nI (va_up (mm 5) n b_v j)))), (b6, .inl (kb6, 40, .inl (fun j => nI (va_up (mm 6) n (rg - 1) j)))), (b7, .inl (kb7, 40, .inl (fun j => nI (va_up (mm 7) n c1_v j)))), (b8, .inl (kb8, 40, .inl (fun j => nI (va_up (mm 8) n d1_v j)))), (b9, .inl (kb9, 40, .inl (fun j => nI (va_up (mm 9) n e1_v j)))), (b10, .inl (kb10, 40, .inl (fun j => nI (va_up (mm 10) n 0 j)))), (b11, .inl (kb11, 40, .inl (fun j => nI (mm 11 j))))] H := by rw [← e_u]; exact hP
                have hD : va_D A [(h0, .inr (6, [.int (nI mg), .ref b0, .ref b1, .int (nI n), .ref b2, .ref b3, .ref b4, .ref b5, .ref b6, .ref b7, .ref b8, .ref b9, .ref b10, .ref b11, .int (nI rg - nI 1), .int (nI rn), .int (nI ro), .int (nI sp), .int (nI gp), .int (nI fx), .ref b12, .ref b13, .ref b14, .ref b15, .ref b16, .ref b17])), (b0, .inl (kb0, 8, .inl (fun j => nI (mm 0 j)))), (b1, .inl (kb1, 8, .inl (fun j => nI (mm 1 j)))), (b2, .inl (kb2, 40, .inl (fun j => nI (va_up (mm 2) n 12 j)))), (b3, .inl (kb3, 40, .inl (fun j => nI (va_up (mm 3) n rn j)))), (b4, .inl (kb4, 40, .inl (fun j => nI (va_up (mm 4) n a_v j)))), (b5, .inl (kb5, 40, .inl (fun j => nI (va_up (mm 5) n b_v j)))), (b6, .inl (kb6, 40, .inl (fun j => nI (va_up (mm 6) n (rg - 1) j)))), (b7, .inl (kb7, 40, .inl (fun j => nI (va_up (mm 7) n c1_v j)))), (b8, .inl (kb8, 40, .inl (fun j => nI (va_up (mm 8) n d1_v j)))), (b9, .inl (kb9, 40, .inl (fun j => nI (va_up (mm 9) n e1_v j)))), (b10, .inl (kb10, 40, .inl (fun j => nI (va_up (mm 10) n 0 j)))), (b11, .inl (kb11, 40, .inl (fun j => nI (mm 11 j))))] := by rw [← e_u]; exact hD
                refine lv_aload_n hx hb dMD_cell_227 rfl (lv_at hl 8 rfl) ?_
                refine va_get (D := (dC, dI)) (ci := 6) (v := .ref b11) (C := RMD) (T := TMD) (N := 26) hx hb hz in_MD hown hK hP 0 rfl rfl 13 (by decide) (hz _ wd_597) (fun _ h9 => h9) rfl dMD_cell_228 ?_
                refine lv_iload hx hb dMD_cell_231 (lv_at hl 0 rfl) ?_
                refine lv_iconst (v := nI 0) hx hb dMD_cell_233 (by decide) ?_
                refine va_iast hx hb hK hP hD hS 12 11 rfl rfl (vp_in_nI (by omega) (by omega)) dMD_cell_234 (fun H locs hP hD hS => ?_)
                have e_u := z_upd (f := mm 11) (k := n) (v := 0) (by omega)
                have hP : va_P (dC, dI) vwCl [(h0, .inr (6, [.int (nI mg), .ref b0, .ref b1, .int (nI n), .ref b2, .ref b3, .ref b4, .ref b5, .ref b6, .ref b7, .ref b8, .ref b9, .ref b10, .ref b11, .int (nI rg - nI 1), .int (nI rn), .int (nI ro), .int (nI sp), .int (nI gp), .int (nI fx), .ref b12, .ref b13, .ref b14, .ref b15, .ref b16, .ref b17])), (b0, .inl (kb0, 8, .inl (fun j => nI (mm 0 j)))), (b1, .inl (kb1, 8, .inl (fun j => nI (mm 1 j)))), (b2, .inl (kb2, 40, .inl (fun j => nI (va_up (mm 2) n 12 j)))), (b3, .inl (kb3, 40, .inl (fun j => nI (va_up (mm 3) n rn j)))), (b4, .inl (kb4, 40, .inl (fun j => nI (va_up (mm 4) n a_v j)))), (b5, .inl (kb5, 40, .inl (fun j => nI (va_up (mm 5) n b_v j)))), (b6, .inl (kb6, 40, .inl (fun j => nI (va_up (mm 6) n (rg - 1) j)))), (b7, .inl (kb7, 40, .inl (fun j => nI (va_up (mm 7) n c1_v j)))), (b8, .inl (kb8, 40, .inl (fun j => nI (va_up (mm 8) n d1_v j)))), (b9, .inl (kb9, 40, .inl (fun j => nI (va_up (mm 9) n e1_v j)))), (b10, .inl (kb10, 40, .inl (fun j => nI (va_up (mm 10) n 0 j)))), (b11, .inl (kb11, 40, .inl (fun j => nI (va_up (mm 11) n 0 j))))] H := by rw [← e_u]; exact hP
                have hD : va_D A [(h0, .inr (6, [.int (nI mg), .ref b0, .ref b1, .int (nI n), .ref b2, .ref b3, .ref b4, .ref b5, .ref b6, .ref b7, .ref b8, .ref b9, .ref b10, .ref b11, .int (nI rg - nI 1), .int (nI rn), .int (nI ro), .int (nI sp), .int (nI gp), .int (nI fx), .ref b12, .ref b13, .ref b14, .ref b15, .ref b16, .ref b17])), (b0, .inl (kb0, 8, .inl (fun j => nI (mm 0 j)))), (b1, .inl (kb1, 8, .inl (fun j => nI (mm 1 j)))), (b2, .inl (kb2, 40, .inl (fun j => nI (va_up (mm 2) n 12 j)))), (b3, .inl (kb3, 40, .inl (fun j => nI (va_up (mm 3) n rn j)))), (b4, .inl (kb4, 40, .inl (fun j => nI (va_up (mm 4) n a_v j)))), (b5, .inl (kb5, 40, .inl (fun j => nI (va_up (mm 5) n b_v j)))), (b6, .inl (kb6, 40, .inl (fun j => nI (va_up (mm 6) n (rg - 1) j)))), (b7, .inl (kb7, 40, .inl (fun j => nI (va_up (mm 7) n c1_v j)))), (b8, .inl (kb8, 40, .inl (fun j => nI (va_up (mm 8) n d1_v j)))), (b9, .inl (kb9, 40, .inl (fun j => nI (va_up (mm 9) n e1_v j)))), (b10, .inl (kb10, 40, .inl (fun j => nI (va_up (mm 10) n 0 j)))), (b11, .inl (kb11, 40, .inl (fun j => nI (va_up (mm 11) n 0 j))))] := by rw [← e_u]; exact hD
                refine lv_aload_n hx hb dMD_cell_235 rfl (lv_at hl 8 rfl) ?_
                refine lv_iload hx hb dMD_cell_236 (lv_at hl 1 rfl) ?_
                refine lv_iload_n hx hb dMD_cell_238 rfl (lv_at hl 7 rfl) ?_
                refine lv_iadd hx hb dMD_cell_239 ?_
                refine lv_topi (fun x20 e21 => ?_)
                have e21 : x20 = nI (12 + a_v) := e21.trans (nI_add _ _)
                subst e21
                refine va_put (D := (dC, dI)) (ci := 6) (v := .int (nI (12 + a_v))) (ty := .int) (C := RMD) (T := TMD) (N := 26) hx hb hz in_MD tyMD tokMD nokMD hown hK hP hD hS 0 rfl rfl 16 (by decide) (hz _ wd_600) (fun _ h9 => h9) rfl (by decide +kernel) rfl rfl (Nat.le_of_ble_eq_true rfl) dMD_cell_240 (fun H locs hP hD hS => ?_)
                have hP : va_P (dC, dI) vwCl [(h0, .inr (6, [.int (nI mg), .ref b0, .ref b1, .int (nI n), .ref b2, .ref b3, .ref b4, .ref b5, .ref b6, .ref b7, .ref b8, .ref b9, .ref b10, .ref b11, .int (nI rg - nI 1), .int (nI rn), .int (nI (12 + a_v)), .int (nI sp), .int (nI gp), .int (nI fx), .ref b12, .ref b13, .ref b14, .ref b15, .ref b16, .ref b17])), (b0, .inl (kb0, 8, .inl (fun j => nI (mm 0 j)))), (b1, .inl (kb1, 8, .inl (fun j => nI (mm 1 j)))), (b2, .inl (kb2, 40, .inl (fun j => nI (va_up (mm 2) n 12 j)))), (b3, .inl (kb3, 40, .inl (fun j => nI (va_up (mm 3) n rn j)))), (b4, .inl (kb4, 40, .inl (fun j => nI (va_up (mm 4) n a_v j)))), (b5, .inl (kb5, 40, .inl (fun j => nI (va_up (mm 5) n b_v j)))), (b6, .inl (kb6, 40, .inl (fun j => nI (va_up (mm 6) n (rg - 1) j)))), (b7, .inl (kb7, 40, .inl (fun j => nI (va_up (mm 7) n c1_v j)))), (b8, .inl (kb8, 40, .inl (fun j => nI (va_up (mm 8) n d1_v j)))), (b9, .inl (kb9, 40, .inl (fun j => nI (va_up (mm 9) n e1_v j)))), (b10, .inl (kb10, 40, .inl (fun j => nI (va_up (mm 10) n 0 j)))), (b11, .inl (kb11, 40, .inl (fun j => nI (va_up (mm 11) n 0 j))))] H := hP
                have hD : va_D A [(h0, .inr (6, [.int (nI mg), .ref b0, .ref b1, .int (nI n), .ref b2, .ref b3, .ref b4, .ref b5, .ref b6, .ref b7, .ref b8, .ref b9, .ref b10, .ref b11, .int (nI rg - nI 1), .int (nI rn), .int (nI (12 + a_v)), .int (nI sp), .int (nI gp), .int (nI fx), .ref b12, .ref b13, .ref b14, .ref b15, .ref b16, .ref b17])), (b0, .inl (kb0, 8, .inl (fun j => nI (mm 0 j)))), (b1, .inl (kb1, 8, .inl (fun j => nI (mm 1 j)))), (b2, .inl (kb2, 40, .inl (fun j => nI (va_up (mm 2) n 12 j)))), (b3, .inl (kb3, 40, .inl (fun j => nI (va_up (mm 3) n rn j)))), (b4, .inl (kb4, 40, .inl (fun j => nI (va_up (mm 4) n a_v j)))), (b5, .inl (kb5, 40, .inl (fun j => nI (va_up (mm 5) n b_v j)))), (b6, .inl (kb6, 40, .inl (fun j => nI (va_up (mm 6) n (rg - 1) j)))), (b7, .inl (kb7, 40, .inl (fun j => nI (va_up (mm 7) n c1_v j)))), (b8, .inl (kb8, 40, .inl (fun j => nI (va_up (mm 8) n d1_v j)))), (b9, .inl (kb9, 40, .inl (fun j => nI (va_up (mm 9) n e1_v j)))), (b10, .inl (kb10, 40, .inl (fun j => nI (va_up (mm 10) n 0 j)))), (b11, .inl (kb11, 40, .inl (fun j => nI (va_up (mm 11) n 0 j))))] := hD
                refine lv_aload_n hx hb dMD_cell_243 rfl (lv_at hl 8 rfl) ?_
                refine lv_aload_n hx hb dMD_cell_244 rfl (lv_at hl 8 rfl) ?_
                refine va_get (D := (dC, dI)) (ci := 6) (v := .int (nI n)) (C := RMD) (T := TMD) (N := 26) hx hb hz in_MD hown hK hP 0 rfl rfl 3 (by decide) (hz _ wd_587) (fun _ h9 => h9) rfl dMD_cell_245 ?_
                refine lv_iconst (v := nI 1) hx hb dMD_cell_248 (by decide) ?_
                refine lv_iadd hx hb dMD_cell_249 ?_
                refine lv_topi (fun x22 e23 => ?_)
                have e23 : x22 = nI (n + 1) := e23.trans (nI_add _ _)
                subst e23
                refine va_put (D := (dC, dI)) (ci := 6) (v := .int (nI (n + 1))) (ty := .int) (C := RMD) (T := TMD) (N := 26) hx hb hz in_MD tyMD tokMD nokMD hown hK hP hD hS 0 rfl rfl 3 (by decide) (hz _ wd_587) (fun _ h9 => h9) rfl (by decide +kernel) rfl rfl (Nat.le_of_ble_eq_true rfl) dMD_cell_250 (fun H locs hP hD hS => ?_)
                have hP : va_P (dC, dI) vwCl [(h0, .inr (6, [.int (nI mg), .ref b0, .ref b1, .int (nI (n + 1)), .ref b2, .ref b3, .ref b4, .ref b5, .ref b6, .ref b7, .ref b8, .ref b9, .ref b10, .ref b11, .int (nI rg - nI 1), .int (nI rn), .int (nI (12 + a_v)), .int (nI sp), .int (nI gp), .int (nI fx), .ref b12, .ref b13, .ref b14, .ref b15, .ref b16, .ref b17])), (b0, .inl (kb0, 8, .inl (fun j => nI (mm 0 j)))), (b1, .inl (kb1, 8, .inl (fun j => nI (mm 1 j)))), (b2, .inl (kb2, 40, .inl (fun j => nI (va_up (mm 2) n 12 j)))), (b3, .inl (kb3, 40, .inl (fun j => nI (va_up (mm 3) n rn j)))), (b4, .inl (kb4, 40, .inl (fun j => nI (va_up (mm 4) n a_v j)))), (b5, .inl (kb5, 40, .inl (fun j => nI (va_up (mm 5) n b_v j)))), (b6, .inl (kb6, 40, .inl (fun j => nI (va_up (mm 6) n (rg - 1) j)))), (b7, .inl (kb7, 40, .inl (fun j => nI (va_up (mm 7) n c1_v j)))), (b8, .inl (kb8, 40, .inl (fun j => nI (va_up (mm 8) n d1_v j)))), (b9, .inl (kb9, 40, .inl (fun j => nI (va_up (mm 9) n e1_v j)))), (b10, .inl (kb10, 40, .inl (fun j => nI (va_up (mm 10) n 0 j)))), (b11, .inl (kb11, 40, .inl (fun j => nI (va_up (mm 11) n 0 j))))] H := hP
                have hD : va_D A [(h0, .inr (6, [.int (nI mg), .ref b0, .ref b1, .int (nI (n + 1)), .ref b2, .ref b3, .ref b4, .ref b5, .ref b6, .ref b7, .ref b8, .ref b9, .ref b10, .ref b11, .int (nI rg - nI 1), .int (nI rn), .int (nI (12 + a_v)), .int (nI sp), .int (nI gp), .int (nI fx), .ref b12, .ref b13, .ref b14, .ref b15, .ref b16, .ref b17])), (b0, .inl (kb0, 8, .inl (fun j => nI (mm 0 j)))), (b1, .inl (kb1, 8, .inl (fun j => nI (mm 1 j)))), (b2, .inl (kb2, 40, .inl (fun j => nI (va_up (mm 2) n 12 j)))), (b3, .inl (kb3, 40, .inl (fun j => nI (va_up (mm 3) n rn j)))), (b4, .inl (kb4, 40, .inl (fun j => nI (va_up (mm 4) n a_v j)))), (b5, .inl (kb5, 40, .inl (fun j => nI (va_up (mm 5) n b_v j)))), (b6, .inl (kb6, 40, .inl (fun j => nI (va_up (mm 6) n (rg - 1) j)))), (b7, .inl (kb7, 40, .inl (fun j => nI (va_up (mm 7) n c1_v j)))), (b8, .inl (kb8, 40, .inl (fun j => nI (va_up (mm 8) n d1_v j)))), (b9, .inl (kb9, 40, .inl (fun j => nI (va_up (mm 9) n e1_v j)))), (b10, .inl (kb10, 40, .inl (fun j => nI (va_up (mm 10) n 0 j)))), (b11, .inl (kb11, 40, .inl (fun j => nI (va_up (mm 11) n 0 j))))] := hD
                refine lv_iload hx hb dMD_cell_253 (lv_at hl 0 rfl) ?_
                subst hQ
                exact zw_iret (D := (dC, dI)) (cl := vwCl) (A := A) (n + 1, 12 + a_v, zmPt mm n 12 rn a_v b_v (rg - 1) c1_v d1_v e1_v) hx hb hr hlocks (Or.inr ⟨⟨h_g2, by omega, by omega⟩, 12, a_v, b_v, c1_v, d1_v, e1_v, ⟨by omega, by omega, hxI, fun h9 => absurd h9 (by omega)⟩, rfl, rfl, rfl, rfl, rfl, Or.inr ⟨by omega, rfl, rfl, rfl, rfl⟩⟩) (hP.sub [0, 1, 2, 3, 4, 5, 6, 7, 8, 9, 10, 11, 12] rfl) (hK.sub [] rfl) (hD.sub [0, 1, 2, 3, 4, 5, 6, 7, 8, 9, 10, 11, 12] (by decide) rfl) hS dMD_cell_255
              · have h17 := z_nle h17
                refine lv_iconst (v := (-1)) hx hb dMD_cell_138 (by decide) ?_
                subst hQ
                exact zw_iret (D := (dC, dI)) (cl := vwCl) (A := A) (n, ro, mm) hx hb hr hlocks (Or.inr ⟨⟨h_g2, by omega, by omega⟩, 12, a_v, b_v, c1_v, d1_v, e1_v, ⟨by omega, by omega, hxI, fun h9 => absurd h9 (by omega)⟩, rfl, rfl, rfl, rfl, rfl, Or.inl ⟨by omega, rfl, rfl, rfl, rfl⟩⟩) (hP.sub [0, 1, 2, 3, 4, 5, 6, 7, 8, 9, 10, 11, 12] rfl) (hK.sub [] rfl) (hD.sub [0, 1, 2, 3, 4, 5, 6, 7, 8, 9, 10, 11, 12] (by decide) rfl) hS dMD_cell_139
          · intro i hi ih
            intro x9 ls hI
            obtain ⟨hl, hxr, hxI⟩ := hI
            have hl : lv_has ls 9 [(7, .int (nI i)), (6, .int v1), (5, .int (nI e1_v)), (4, .int (nI d1_v)), (3, .int (nI c1_v)), (2, .int (nI b_v)), (1, .int (nI a_v)), (0, .ref h0)] := hl
            refine lv_iload hx hb dMD_cell_93 (lv_at hl 0 rfl) ?_
            refine lv_bipush (v := nI 12) hx hb dMD_cell_95 (by decide) ?_
            have t24 := nI_toInt (n := i) (by omega)
            have t25 := nI_toInt (n := 12) (by omega)
            refine lv_icmp_ge (tgt := 118) hx hb dMD_cell_97 rfl (fun h => by have h := z_le h; omega) (fun _ => ?_)
            refine lv_aload_n hx hb dMD_cell_100 rfl (lv_at hl 7 rfl) ?_
            refine lv_iload hx hb dMD_cell_101 (lv_at hl 0 rfl) ?_
            refine vp_callSi (W.runV (As := [.int (nI i)]) (rest := []) ⟨hx, hb, hml, hown, hz⟩ (f_MD_isTaken l dC dI h0 b0 b1 b2 b3 b4 b5 b6 b7 b8 b9 b10 b11 b12 b13 b14 b15 b16 b17 kb0 kb1 kb2 kb3 kb4 kb5 kb6 kb7 kb8 kb9 kb10 kb11 mg n _ rn ro sp gp fx _ i (hm) (by omega) (hg) (hG) (hE) (by omega)) (cwV 1 hz (z_gV wd_680 wd_682 wd_14 wd_37 wd_683) rfl rfl rfl (by decide +kernel) ⟨Nat.le_of_ble_eq_true rfl, Nat.le_of_ble_eq_true rfl⟩) (zr_preV hK (hP.sub [0, 1, 2, 3, 4, 5, 6, 7, 8, 9, 10, 11, 12] rfl) (va_recv (q0 := 0) hK hP (q := (RMD, TMD, 26)) rfl rfl) [0, 1, 2, 3, 4, 5, 6, 7, 8, 9, 10, 11] rfl z_true (fun _ _ _ => trivial)) rfl rfl hl.1 rfl (lv_room (Nat.le_of_ble_eq_true rfl)) dMD_cell_103 ⟨Nat.le_of_ble_eq_true rfl, Nat.le_of_ble_eq_true rfl⟩) (fun rb h_rb => ?_)
            have h_rb : z_yn rb (∃ k, k < n ∧ zIt mm rg rn i k) := h_rb
            refine lv_if_eq (tgt := 118) hx hb dMD_cell_106 rfl (fun h_b => ?_) (fun h_b => ?_)
            · have h_b := z_yF h_rb h_b
              refine lv_iload hx hb dMD_cell_118 (lv_at hl 0 rfl) ?_
              refine lv_iload_n hx hb dMD_cell_120 rfl (lv_at hl 6 rfl) ?_
              refine lv_iadd hx hb dMD_cell_121 ?_
              refine lv_topi (fun x27 e28 => ?_)
              have e28 : x27 = nI (i + a_v) := e28.trans (nI_add _ _)
              subst e28
              refine lv_bipush (v := nI 12) hx hb dMD_cell_122 (by decide) ?_
              have t29 := nI_toInt (n := i + a_v) (by omega)
              have t30 := nI_toInt (n := 12) (by omega)
              refine lv_icmp_gt (tgt := 138) hx hb dMD_cell_124 rfl (fun h31 => ?_) (fun h31 => ?_)
              · have h31 := z_lt h31
                refine lv_iconst (v := (-1)) hx hb dMD_cell_138 (by decide) ?_
                subst hQ
                exact zw_iret (D := (dC, dI)) (cl := vwCl) (A := A) (n, ro, mm) hx hb hr hlocks (Or.inr ⟨⟨h_g2, by omega, by omega⟩, i, a_v, b_v, c1_v, d1_v, e1_v, ⟨by omega, by omega, hxI, fun _ => h_b⟩, rfl, rfl, rfl, rfl, rfl, Or.inl ⟨by omega, rfl, rfl, rfl, rfl⟩⟩) (hP.sub [0, 1, 2, 3, 4, 5, 6, 7, 8, 9, 10, 11, 12] rfl) (hK.sub [] rfl) (hD.sub [0, 1, 2, 3, 4, 5, 6, 7, 8, 9, 10, 11, 12] (by decide) rfl) hS dMD_cell_139
              · have h31 := z_nlt h31
                refine lv_aload_n hx hb dMD_cell_127 rfl (lv_at hl 7 rfl) ?_
                refine va_get (D := (dC, dI)) (ci := 6) (v := .int (nI rn)) (C := RMD) (T := TMD) (N := 26) hx hb hz in_MD hown hK hP 0 rfl rfl 15 (by decide) (hz _ wd_599) (fun _ h9 => h9) rfl dMD_cell_128 ?_
                refine lv_iload_n hx hb dMD_cell_131 rfl (lv_at hl 5 rfl) ?_
                refine lv_iadd hx hb dMD_cell_132 ?_
                refine lv_topi (fun x32 e33 => ?_)
                have e33 : x32 = nI (rn + b_v) := e33.trans (nI_add _ _)
                subst e33
                refine lv_bipush (v := nI 12) hx hb dMD_cell_133 (by decide) ?_
                have t34 := nI_toInt (n := rn + b_v) (by omega)
                have t35 := nI_toInt (n := 12) (by omega)
                refine lv_icmp_le (tgt := 140) hx hb dMD_cell_135 rfl (fun h36 => ?_) (fun h36 => ?_)
                · have h36 := z_le h36
                  refine lv_aload_n hx hb dMD_cell_140 rfl (lv_at hl 7 rfl) ?_
                  refine va_get (D := (dC, dI)) (ci := 6) (v := .int (nI n)) (C := RMD) (T := TMD) (N := 26) hx hb hz in_MD hown hK hP 0 rfl rfl 3 (by decide) (hz _ wd_587) (fun _ h9 => h9) rfl dMD_cell_141 ?_
                  refine lv_istore hx hb dMD_cell_144 hl (Nat.le_of_ble_eq_true rfl) rfl (fun ls hl => ?_)
                  have hl : lv_has ls 9 [(8, .int (nI n)), (7, .int (nI i)), (6, .int v1), (5, .int (nI e1_v)), (4, .int (nI d1_v)), (3, .int (nI c1_v)), (2, .int (nI b_v)), (1, .int (nI a_v)), (0, .ref h0)] := hl
                  refine lv_aload_n hx hb dMD_cell_146 rfl (lv_at hl 8 rfl) ?_
                  refine va_get (D := (dC, dI)) (ci := 6) (v := .ref b2) (C := RMD) (T := TMD) (N := 26) hx hb hz in_MD hown hK hP 0 rfl rfl 4 (by decide) (hz _ wd_588) (fun _ h9 => h9) rfl dMD_cell_147 ?_
                  refine lv_iload hx hb dMD_cell_150 (lv_at hl 0 rfl) ?_
                  refine lv_iload hx hb dMD_cell_152 (lv_at hl 1 rfl) ?_
                  refine va_iast hx hb hK hP hD hS 3 2 rfl rfl (vp_in_nI (by omega) (by omega)) dMD_cell_154 (fun H locs hP hD hS => ?_)
                  have e_u := z_upd (f := mm 2) (k := n) (v := i) (by omega)
                  have hP : va_P (dC, dI) vwCl [(h0, .inr (6, [.int (nI mg), .ref b0, .ref b1, .int (nI n), .ref b2, .ref b3, .ref b4, .ref b5, .ref b6, .ref b7, .ref b8, .ref b9, .ref b10, .ref b11, .int (nI rg - nI 1), .int (nI rn), .int (nI ro), .int (nI sp), .int (nI gp), .int (nI fx), .ref b12, .ref b13, .ref b14, .ref b15, .ref b16, .ref b17])), (b0, .inl (kb0, 8, .inl (fun j => nI (mm 0 j)))), (b1, .inl (kb1, 8, .inl (fun j => nI (mm 1 j)))), (b2, .inl (kb2, 40, .inl (fun j => nI (va_up (mm 2) n i j)))), (b3, .inl (kb3, 40, .inl (fun j => nI (mm 3 j)))), (b4, .inl (kb4, 40, .inl (fun j => nI (mm 4 j)))), (b5, .inl (kb5, 40, .inl (fun j => nI (mm 5 j)))), (b6, .inl (kb6, 40, .inl (fun j => nI (mm 6 j)))), (b7, .inl (kb7, 40, .inl (fun j => nI (mm 7 j)))), (b8, .inl (kb8, 40, .inl (fun j => nI (mm 8 j)))), (b9, .inl (kb9, 40, .inl (fun j => nI (mm 9 j)))), (b10, .inl (kb10, 40, .inl (fun j => nI (mm 10 j)))), (b11, .inl (kb11, 40, .inl (fun j => nI (mm 11 j))))] H := by rw [← e_u]; exact hP
                  have hD : va_D A [(h0, .inr (6, [.int (nI mg), .ref b0, .ref b1, .int (nI n), .ref b2, .ref b3, .ref b4, .ref b5, .ref b6, .ref b7, .ref b8, .ref b9, .ref b10, .ref b11, .int (nI rg - nI 1), .int (nI rn), .int (nI ro), .int (nI sp), .int (nI gp), .int (nI fx), .ref b12, .ref b13, .ref b14, .ref b15, .ref b16, .ref b17])), (b0, .inl (kb0, 8, .inl (fun j => nI (mm 0 j)))), (b1, .inl (kb1, 8, .inl (fun j => nI (mm 1 j)))), (b2, .inl (kb2, 40, .inl (fun j => nI (va_up (mm 2) n i j)))), (b3, .inl (kb3, 40, .inl (fun j => nI (mm 3 j)))), (b4, .inl (kb4, 40, .inl (fun j => nI (mm 4 j)))), (b5, .inl (kb5, 40, .inl (fun j => nI (mm 5 j)))), (b6, .inl (kb6, 40, .inl (fun j => nI (mm 6 j)))), (b7, .inl (kb7, 40, .inl (fun j => nI (mm 7 j)))), (b8, .inl (kb8, 40, .inl (fun j => nI (mm 8 j)))), (b9, .inl (kb9, 40, .inl (fun j => nI (mm 9 j)))), (b10, .inl (kb10, 40, .inl (fun j => nI (mm 10 j)))), (b11, .inl (kb11, 40, .inl (fun j => nI (mm 11 j))))] := by rw [← e_u]; exact hD
                  refine lv_aload_n hx hb dMD_cell_155 rfl (lv_at hl 8 rfl) ?_
                  refine va_get (D := (dC, dI)) (ci := 6) (v := .ref b3) (C := RMD) (T := TMD) (N := 26) hx hb hz in_MD hown hK hP 0 rfl rfl 5 (by decide) (hz _ wd_589) (fun _ h9 => h9) rfl dMD_cell_156 ?_
                  refine lv_iload hx hb dMD_cell_159 (lv_at hl 0 rfl) ?_
                  refine lv_aload_n hx hb dMD_cell_161 rfl (lv_at hl 8 rfl) ?_
                  refine va_get (D := (dC, dI)) (ci := 6) (v := .int (nI rn)) (C := RMD) (T := TMD) (N := 26) hx hb hz in_MD hown hK hP 0 rfl rfl 15 (by decide) (hz _ wd_599) (fun _ h9 => h9) rfl dMD_cell_162 ?_
                  refine va_iast hx hb hK hP hD hS 4 3 rfl rfl (vp_in_nI (by omega) (by omega)) dMD_cell_165 (fun H locs hP hD hS => ?_)
                  have e_u := z_upd (f := mm 3) (k := n) (v := rn) (by omega)
                  have hP : va_P (dC, dI) vwCl [(h0, .inr (6, [.int (nI mg), .ref b0, .ref b1, .int (nI n), .ref b2, .ref b3, .ref b4, .ref b5, .ref b6, .ref b7, .ref b8, .ref b9, .ref b10, .ref b11, .int (nI rg - nI 1), .int (nI rn), .int (nI ro), .int (nI sp), .int (nI gp), .int (nI fx), .ref b12, .ref b13, .ref b14, .ref b15, .ref b16, .ref b17])), (b0, .inl (kb0, 8, .inl (fun j => nI (mm 0 j)))), (b1, .inl (kb1, 8, .inl (fun j => nI (mm 1 j)))), (b2, .inl (kb2, 40, .inl (fun j => nI (va_up (mm 2) n i j)))), (b3, .inl (kb3, 40, .inl (fun j => nI (va_up (mm 3) n rn j)))), (b4, .inl (kb4, 40, .inl (fun j => nI (mm 4 j)))), (b5, .inl (kb5, 40, .inl (fun j => nI (mm 5 j)))), (b6, .inl (kb6, 40, .inl (fun j => nI (mm 6 j)))), (b7, .inl (kb7, 40, .inl (fun j => nI (mm 7 j)))), (b8, .inl (kb8, 40, .inl (fun j => nI (mm 8 j)))), (b9, .inl (kb9, 40, .inl (fun j => nI (mm 9 j)))), (b10, .inl (kb10, 40, .inl (fun j => nI (mm 10 j)))), (b11, .inl (kb11, 40, .inl (fun j => nI (mm 11 j))))] H := by rw [← e_u]; exact hP
                  have hD : va_D A [(h0, .inr (6, [.int (nI mg), .ref b0, .ref b1, .int (nI n), .ref b2, .ref b3, .ref b4, .ref b5, .ref b6, .ref b7, .ref b8, .ref b9, .ref b10, .ref b11, .int (nI rg - nI 1), .int (nI rn), .int (nI ro), .int (nI sp), .int (nI gp), .int (nI fx), .ref b12, .ref b13, .ref b14, .ref b15, .ref b16, .ref b17])), (b0, .inl (kb0, 8, .inl (fun j => nI (mm 0 j)))), (b1, .inl (kb1, 8, .inl (fun j => nI (mm 1 j)))), (b2, .inl (kb2, 40, .inl (fun j => nI (va_up (mm 2) n i j)))), (b3, .inl (kb3, 40, .inl (fun j => nI (va_up (mm 3) n rn j)))), (b4, .inl (kb4, 40, .inl (fun j => nI (mm 4 j)))), (b5, .inl (kb5, 40, .inl (fun j => nI (mm 5 j)))), (b6, .inl (kb6, 40, .inl (fun j => nI (mm 6 j)))), (b7, .inl (kb7, 40, .inl (fun j => nI (mm 7 j)))), (b8, .inl (kb8, 40, .inl (fun j => nI (mm 8 j)))), (b9, .inl (kb9, 40, .inl (fun j => nI (mm 9 j)))), (b10, .inl (kb10, 40, .inl (fun j => nI (mm 10 j)))), (b11, .inl (kb11, 40, .inl (fun j => nI (mm 11 j))))] := by rw [← e_u]; exact hD
                  refine lv_aload_n hx hb dMD_cell_166 rfl (lv_at hl 8 rfl) ?_
                  refine va_get (D := (dC, dI)) (ci := 6) (v := .ref b4) (C := RMD) (T := TMD) (N := 26) hx hb hz in_MD hown hK hP 0 rfl rfl 6 (by decide) (hz _ wd_590) (fun _ h9 => h9) rfl dMD_cell_167 ?_
                  refine lv_iload hx hb dMD_cell_170 (lv_at hl 0 rfl) ?_
                  refine lv_iload_n hx hb dMD_cell_172 rfl (lv_at hl 7 rfl) ?_
                  refine va_iast hx hb hK hP hD hS 5 4 rfl rfl (vp_in_nI (by omega) (by omega)) dMD_cell_173 (fun H locs hP hD hS => ?_)
                  have e_u := z_upd (f := mm 4) (k := n) (v := a_v) (by omega)
                  have hP : va_P (dC, dI) vwCl [(h0, .inr (6, [.int (nI mg), .ref b0, .ref b1, .int (nI n), .ref b2, .ref b3, .ref b4, .ref b5, .ref b6, .ref b7, .ref b8, .ref b9, .ref b10, .ref b11, .int (nI rg - nI 1), .int (nI rn), .int (nI ro), .int (nI sp), .int (nI gp), .int (nI fx), .ref b12, .ref b13, .ref b14, .ref b15, .ref b16, .ref b17])), (b0, .inl (kb0, 8, .inl (fun j => nI (mm 0 j)))), (b1, .inl (kb1, 8, .inl (fun j => nI (mm 1 j)))), (b2, .inl (kb2, 40, .inl (fun j => nI (va_up (mm 2) n i j)))), (b3, .inl (kb3, 40, .inl (fun j => nI (va_up (mm 3) n rn j)))), (b4, .inl (kb4, 40, .inl (fun j => nI (va_up (mm 4) n a_v j)))), (b5, .inl (kb5, 40, .inl (fun j => nI (mm 5 j)))), (b6, .inl (kb6, 40, .inl (fun j => nI (mm 6 j)))), (b7, .inl (kb7, 40, .inl (fun j => nI (mm 7 j)))), (b8, .inl (kb8, 40, .inl (fun j => nI (mm 8 j)))), (b9, .inl (kb9, 40, .inl (fun j => nI (mm 9 j)))), (b10, .inl (kb10, 40, .inl (fun j => nI (mm 10 j)))), (b11, .inl (kb11, 40, .inl (fun j => nI (mm 11 j))))] H := by rw [← e_u]; exact hP
                  have hD : va_D A [(h0, .inr (6, [.int (nI mg), .ref b0, .ref b1, .int (nI n), .ref b2, .ref b3, .ref b4, .ref b5, .ref b6, .ref b7, .ref b8, .ref b9, .ref b10, .ref b11, .int (nI rg - nI 1), .int (nI rn), .int (nI ro), .int (nI sp), .int (nI gp), .int (nI fx), .ref b12, .ref b13, .ref b14, .ref b15, .ref b16, .ref b17])), (b0, .inl (kb0, 8, .inl (fun j => nI (mm 0 j)))), (b1, .inl (kb1, 8, .inl (fun j => nI (mm 1 j)))), (b2, .inl (kb2, 40, .inl (fun j => nI (va_up (mm 2) n i j)))), (b3, .inl (kb3, 40, .inl (fun j => nI (va_up (mm 3) n rn j)))), (b4, .inl (kb4, 40, .inl (fun j => nI (va_up (mm 4) n a_v j)))), (b5, .inl (kb5, 40, .inl (fun j => nI (mm 5 j)))), (b6, .inl (kb6, 40, .inl (fun j => nI (mm 6 j)))), (b7, .inl (kb7, 40, .inl (fun j => nI (mm 7 j)))), (b8, .inl (kb8, 40, .inl (fun j => nI (mm 8 j)))), (b9, .inl (kb9, 40, .inl (fun j => nI (mm 9 j)))), (b10, .inl (kb10, 40, .inl (fun j => nI (mm 10 j)))), (b11, .inl (kb11, 40, .inl (fun j => nI (mm 11 j))))] := by rw [← e_u]; exact hD
                  refine lv_aload_n hx hb dMD_cell_174 rfl (lv_at hl 8 rfl) ?_
                  refine va_get (D := (dC, dI)) (ci := 6) (v := .ref b5) (C := RMD) (T := TMD) (N := 26) hx hb hz in_MD hown hK hP 0 rfl rfl 7 (by decide) (hz _ wd_591) (fun _ h9 => h9) rfl dMD_cell_175 ?_
                  refine lv_iload hx hb dMD_cell_178 (lv_at hl 0 rfl) ?_
                  refine lv_iload_n hx hb dMD_cell_180 rfl (lv_at hl 6 rfl) ?_
                  refine va_iast hx hb hK hP hD hS 6 5 rfl rfl (vp_in_nI (by omega) (by omega)) dMD_cell_181 (fun H locs hP hD hS => ?_)
                  have e_u := z_upd (f := mm 5) (k := n) (v := b_v) (by omega)
                  have hP : va_P (dC, dI) vwCl [(h0, .inr (6, [.int (nI mg), .ref b0, .ref b1, .int (nI n), .ref b2, .ref b3, .ref b4, .ref b5, .ref b6, .ref b7, .ref b8, .ref b9, .ref b10, .ref b11, .int (nI rg - nI 1), .int (nI rn), .int (nI ro), .int (nI sp), .int (nI gp), .int (nI fx), .ref b12, .ref b13, .ref b14, .ref b15, .ref b16, .ref b17])), (b0, .inl (kb0, 8, .inl (fun j => nI (mm 0 j)))), (b1, .inl (kb1, 8, .inl (fun j => nI (mm 1 j)))), (b2, .inl (kb2, 40, .inl (fun j => nI (va_up (mm 2) n i j)))), (b3, .inl (kb3, 40, .inl (fun j => nI (va_up (mm 3) n rn j)))), (b4, .inl (kb4, 40, .inl (fun j => nI (va_up (mm 4) n a_v j)))), (b5, .inl (kb5, 40, .inl (fun j => nI (va_up (mm 5) n b_v j)))), (b6, .inl (kb6, 40, .inl (fun j => nI (mm 6 j)))), (b7, .inl (kb7, 40, .inl (fun j => nI (mm 7 j)))), (b8, .inl (kb8, 40, .inl (fun j => nI (mm 8 j)))), (b9, .inl (kb9, 40, .inl (fun j => nI (mm 9 j)))), (b10, .inl (kb10, 40, .inl (fun j => nI (mm 10 j)))), (b11, .inl (kb11, 40, .inl (fun j => nI (mm 11 j))))] H := by rw [← e_u]; exact hP
                  have hD : va_D A [(h0, .inr (6, [.int (nI mg), .ref b0, .ref b1, .int (nI n), .ref b2, .ref b3, .ref b4, .ref b5, .ref b6, .ref b7, .ref b8, .ref b9, .ref b10, .ref b11, .int (nI rg - nI 1), .int (nI rn), .int (nI ro), .int (nI sp), .int (nI gp), .int (nI fx), .ref b12, .ref b13, .ref b14, .ref b15, .ref b16, .ref b17])), (b0, .inl (kb0, 8, .inl (fun j => nI (mm 0 j)))), (b1, .inl (kb1, 8, .inl (fun j => nI (mm 1 j)))), (b2, .inl (kb2, 40, .inl (fun j => nI (va_up (mm 2) n i j)))), (b3, .inl (kb3, 40, .inl (fun j => nI (va_up (mm 3) n rn j)))), (b4, .inl (kb4, 40, .inl (fun j => nI (va_up (mm 4) n a_v j)))), (b5, .inl (kb5, 40, .inl (fun j => nI (va_up (mm 5) n b_v j)))), (b6, .inl (kb6, 40, .inl (fun j => nI (mm 6 j)))), (b7, .inl (kb7, 40, .inl (fun j => nI (mm 7 j)))), (b8, .inl (kb8, 40, .inl (fun j => nI (mm 8 j)))), (b9, .inl (kb9, 40, .inl (fun j => nI (mm 9 j)))), (b10, .inl (kb10, 40, .inl (fun j => nI (mm 10 j)))), (b11, .inl (kb11, 40, .inl (fun j => nI (mm 11 j))))] := by rw [← e_u]; exact hD
                  refine lv_aload_n hx hb dMD_cell_182 rfl (lv_at hl 8 rfl) ?_
                  refine va_get (D := (dC, dI)) (ci := 6) (v := .ref b6) (C := RMD) (T := TMD) (N := 26) hx hb hz in_MD hown hK hP 0 rfl rfl 8 (by decide) (hz _ wd_592) (fun _ h9 => h9) rfl dMD_cell_183 ?_
                  refine lv_iload hx hb dMD_cell_186 (lv_at hl 0 rfl) ?_
                  refine lv_aload_n hx hb dMD_cell_188 rfl (lv_at hl 8 rfl) ?_
                  refine va_get (D := (dC, dI)) (ci := 6) (v := .int (nI rg - nI 1)) (C := RMD) (T := TMD) (N := 26) hx hb hz in_MD hown hK hP 0 rfl rfl 14 (by decide) (hz _ wd_598) (fun _ h9 => h9) rfl dMD_cell_189 ?_
                  refine lv_topi (fun x37 e38 => ?_)
                  have e38 : x37 = nI (rg - 1) := e38.trans (pk_sub (by omega))
                  subst e38
                  refine va_iast hx hb hK hP hD hS 7 6 rfl rfl (vp_in_nI (by omega) (by omega)) dMD_cell_192 (fun H locs hP hD hS => ?_)
                  have e_u := z_upd (f := mm 6) (k := n) (v := rg - 1) (by omega)
                  have hP : va_P (dC, dI) vwCl [(h0, .inr (6, [.int (nI mg), .ref b0, .ref b1, .int (nI n), .ref b2, .ref b3, .ref b4, .ref b5, .ref b6, .ref b7, .ref b8, .ref b9, .ref b10, .ref b11, .int (nI rg - nI 1), .int (nI rn), .int (nI ro), .int (nI sp), .int (nI gp), .int (nI fx), .ref b12, .ref b13, .ref b14, .ref b15, .ref b16, .ref b17])), (b0, .inl (kb0, 8, .inl (fun j => nI (mm 0 j)))), (b1, .inl (kb1, 8, .inl (fun j => nI (mm 1 j)))), (b2, .inl (kb2, 40, .inl (fun j => nI (va_up (mm 2) n i j)))), (b3, .inl (kb3, 40, .inl (fun j => nI (va_up (mm 3) n rn j)))), (b4, .inl (kb4, 40, .inl (fun j => nI (va_up (mm 4) n a_v j)))), (b5, .inl (kb5, 40, .inl (fun j => nI (va_up (mm 5) n b_v j)))), (b6, .inl (kb6, 40, .inl (fun j => nI (va_up (mm 6) n (rg - 1) j)))), (b7, .inl (kb7, 40, .inl (fun j => nI (mm 7 j)))), (b8, .inl (kb8, 40, .inl (fun j => nI (mm 8 j)))), (b9, .inl (kb9, 40, .inl (fun j => nI (mm 9 j)))), (b10, .inl (kb10, 40, .inl (fun j => nI (mm 10 j)))), (b11, .inl (kb11, 40, .inl (fun j => nI (mm 11 j))))] H := by rw [← e_u]; exact hP
                  have hD : va_D A [(h0, .inr (6, [.int (nI mg), .ref b0, .ref b1, .int (nI n), .ref b2, .ref b3, .ref b4, .ref b5, .ref b6, .ref b7, .ref b8, .ref b9, .ref b10, .ref b11, .int (nI rg - nI 1), .int (nI rn), .int (nI ro), .int (nI sp), .int (nI gp), .int (nI fx), .ref b12, .ref b13, .ref b14, .ref b15, .ref b16, .ref b17])), (b0, .inl (kb0, 8, .inl (fun j => nI (mm 0 j)))), (b1, .inl (kb1, 8, .inl (fun j => nI (mm 1 j)))), (b2, .inl (kb2, 40, .inl (fun j => nI (va_up (mm 2) n i j)))), (b3, .inl (kb3, 40, .inl (fun j => nI (va_up (mm 3) n rn j)))), (b4, .inl (kb4, 40, .inl (fun j => nI (va_up (mm 4) n a_v j)))), (b5, .inl (kb5, 40, .inl (fun j => nI (va_up (mm 5) n b_v j)))), (b6, .inl (kb6, 40, .inl (fun j => nI (va_up (mm 6) n (rg - 1) j)))), (b7, .inl (kb7, 40, .inl (fun j => nI (mm 7 j)))), (b8, .inl (kb8, 40, .inl (fun j => nI (mm 8 j)))), (b9, .inl (kb9, 40, .inl (fun j => nI (mm 9 j)))), (b10, .inl (kb10, 40, .inl (fun j => nI (mm 10 j)))), (b11, .inl (kb11, 40, .inl (fun j => nI (mm 11 j))))] := by rw [← e_u]; exact hD
                  refine lv_aload_n hx hb dMD_cell_193 rfl (lv_at hl 8 rfl) ?_
                  refine va_get (D := (dC, dI)) (ci := 6) (v := .ref b7) (C := RMD) (T := TMD) (N := 26) hx hb hz in_MD hown hK hP 0 rfl rfl 9 (by decide) (hz _ wd_593) (fun _ h9 => h9) rfl dMD_cell_194 ?_
                  refine lv_iload hx hb dMD_cell_197 (lv_at hl 0 rfl) ?_
                  refine lv_iload_n hx hb dMD_cell_199 rfl (lv_at hl 5 rfl) ?_
                  refine va_iast hx hb hK hP hD hS 8 7 rfl rfl (vp_in_nI (by omega) (by omega)) dMD_cell_200 (fun H locs hP hD hS => ?_)
                  have e_u := z_upd (f := mm 7) (k := n) (v := c1_v) (by omega)
                  have hP : va_P (dC, dI) vwCl [(h0, .inr (6, [.int (nI mg), .ref b0, .ref b1, .int (nI n), .ref b2, .ref b3, .ref b4, .ref b5, .ref b6, .ref b7, .ref b8, .ref b9, .ref b10, .ref b11, .int (nI rg - nI 1), .int (nI rn), .int (nI ro), .int (nI sp), .int (nI gp), .int (nI fx), .ref b12, .ref b13, .ref b14, .ref b15, .ref b16, .ref b17])), (b0, .inl (kb0, 8, .inl (fun j => nI (mm 0 j)))), (b1, .inl (kb1, 8, .inl (fun j => nI (mm 1 j)))), (b2, .inl (kb2, 40, .inl (fun j => nI (va_up (mm 2) n i j)))), (b3, .inl (kb3, 40, .inl (fun j => nI (va_up (mm 3) n rn j)))), (b4, .inl (kb4, 40, .inl (fun j => nI (va_up (mm 4) n a_v j)))), (b5, .inl (kb5, 40, .inl (fun j => nI (va_up (mm 5) n b_v j)))), (b6, .inl (kb6, 40, .inl (fun j => nI (va_up (mm 6) n (rg - 1) j)))), (b7, .inl (kb7, 40, .inl (fun j => nI (va_up (mm 7) n c1_v j)))), (b8, .inl (kb8, 40, .inl (fun j => nI (mm 8 j)))), (b9, .inl (kb9, 40, .inl (fun j => nI (mm 9 j)))), (b10, .inl (kb10, 40, .inl (fun j => nI (mm 10 j)))), (b11, .inl (kb11, 40, .inl (fun j => nI (mm 11 j))))] H := by rw [← e_u]; exact hP
                  have hD : va_D A [(h0, .inr (6, [.int (nI mg), .ref b0, .ref b1, .int (nI n), .ref b2, .ref b3, .ref b4, .ref b5, .ref b6, .ref b7, .ref b8, .ref b9, .ref b10, .ref b11, .int (nI rg - nI 1), .int (nI rn), .int (nI ro), .int (nI sp), .int (nI gp), .int (nI fx), .ref b12, .ref b13, .ref b14, .ref b15, .ref b16, .ref b17])), (b0, .inl (kb0, 8, .inl (fun j => nI (mm 0 j)))), (b1, .inl (kb1, 8, .inl (fun j => nI (mm 1 j)))), (b2, .inl (kb2, 40, .inl (fun j => nI (va_up (mm 2) n i j)))), (b3, .inl (kb3, 40, .inl (fun j => nI (va_up (mm 3) n rn j)))), (b4, .inl (kb4, 40, .inl (fun j => nI (va_up (mm 4) n a_v j)))), (b5, .inl (kb5, 40, .inl (fun j => nI (va_up (mm 5) n b_v j)))), (b6, .inl (kb6, 40, .inl (fun j => nI (va_up (mm 6) n (rg - 1) j)))), (b7, .inl (kb7, 40, .inl (fun j => nI (va_up (mm 7) n c1_v j)))), (b8, .inl (kb8, 40, .inl (fun j => nI (mm 8 j)))), (b9, .inl (kb9, 40, .inl (fun j => nI (mm 9 j)))), (b10, .inl (kb10, 40, .inl (fun j => nI (mm 10 j)))), (b11, .inl (kb11, 40, .inl (fun j => nI (mm 11 j))))] := by rw [← e_u]; exact hD
                  refine lv_aload_n hx hb dMD_cell_201 rfl (lv_at hl 8 rfl) ?_
                  refine va_get (D := (dC, dI)) (ci := 6) (v := .ref b8) (C := RMD) (T := TMD) (N := 26) hx hb hz in_MD hown hK hP 0 rfl rfl 10 (by decide) (hz _ wd_594) (fun _ h9 => h9) rfl dMD_cell_202 ?_
                  refine lv_iload hx hb dMD_cell_205 (lv_at hl 0 rfl) ?_
                  refine lv_iload hx hb dMD_cell_207 (lv_at hl 4 rfl) ?_
                  refine va_iast hx hb hK hP hD hS 9 8 rfl rfl (vp_in_nI (by omega) (by omega)) dMD_cell_209 (fun H locs hP hD hS => ?_)
                  have e_u := z_upd (f := mm 8) (k := n) (v := d1_v) (by omega)
                  have hP : va_P (dC, dI) vwCl [(h0, .inr (6, [.int (nI mg), .ref b0, .ref b1, .int (nI n), .ref b2, .ref b3, .ref b4, .ref b5, .ref b6, .ref b7, .ref b8, .ref b9, .ref b10, .ref b11, .int (nI rg - nI 1), .int (nI rn), .int (nI ro), .int (nI sp), .int (nI gp), .int (nI fx), .ref b12, .ref b13, .ref b14, .ref b15, .ref b16, .ref b17])), (b0, .inl (kb0, 8, .inl (fun j => nI (mm 0 j)))), (b1, .inl (kb1, 8, .inl (fun j => nI (mm 1 j)))), (b2, .inl (kb2, 40, .inl (fun j => nI (va_up (mm 2) n i j)))), (b3, .inl (kb3, 40, .inl (fun j => nI (va_up (mm 3) n rn j)))), (b4, .inl (kb4, 40, .inl (fun j => nI (va_up (mm 4) n a_v j)))), (b5, .inl (kb5, 40, .inl (fun j => nI (va_up (mm 5) n b_v j)))), (b6, .inl (kb6, 40, .inl (fun j => nI (va_up (mm 6) n (rg - 1) j)))), (b7, .inl (kb7, 40, .inl (fun j => nI (va_up (mm 7) n c1_v j)))), (b8, .inl (kb8, 40, .inl (fun j => nI (va_up (mm 8) n d1_v j)))), (b9, .inl (kb9, 40, .inl (fun j => nI (mm 9 j)))), (b10, .inl (kb10, 40, .inl (fun j => nI (mm 10 j)))), (b11, .inl (kb11, 40, .inl (fun j => nI (mm 11 j))))] H := by rw [← e_u]; exact hP
                  have hD : va_D A [(h0, .inr (6, [.int (nI mg), .ref b0, .ref b1, .int (nI n), .ref b2, .ref b3, .ref b4, .ref b5, .ref b6, .ref b7, .ref b8, .ref b9, .ref b10, .ref b11, .int (nI rg - nI 1), .int (nI rn), .int (nI ro), .int (nI sp), .int (nI gp), .int (nI fx), .ref b12, .ref b13, .ref b14, .ref b15, .ref b16, .ref b17])), (b0, .inl (kb0, 8, .inl (fun j => nI (mm 0 j)))), (b1, .inl (kb1, 8, .inl (fun j => nI (mm 1 j)))), (b2, .inl (kb2, 40, .inl (fun j => nI (va_up (mm 2) n i j)))), (b3, .inl (kb3, 40, .inl (fun j => nI (va_up (mm 3) n rn j)))), (b4, .inl (kb4, 40, .inl (fun j => nI (va_up (mm 4) n a_v j)))), (b5, .inl (kb5, 40, .inl (fun j => nI (va_up (mm 5) n b_v j)))), (b6, .inl (kb6, 40, .inl (fun j => nI (va_up (mm 6) n (rg - 1) j)))), (b7, .inl (kb7, 40, .inl (fun j => nI (va_up (mm 7) n c1_v j)))), (b8, .inl (kb8, 40, .inl (fun j => nI (va_up (mm 8) n d1_v j)))), (b9, .inl (kb9, 40, .inl (fun j => nI (mm 9 j)))), (b10, .inl (kb10, 40, .inl (fun j => nI (mm 10 j)))), (b11, .inl (kb11, 40, .inl (fun j => nI (mm 11 j))))] := by rw [← e_u]; exact hD
                  refine lv_aload_n hx hb dMD_cell_210 rfl (lv_at hl 8 rfl) ?_
                  refine va_get (D := (dC, dI)) (ci := 6) (v := .ref b9) (C := RMD) (T := TMD) (N := 26) hx hb hz in_MD hown hK hP 0 rfl rfl 11 (by decide) (hz _ wd_595) (fun _ h9 => h9) rfl dMD_cell_211 ?_
                  refine lv_iload hx hb dMD_cell_214 (lv_at hl 0 rfl) ?_
                  refine lv_iload hx hb dMD_cell_216 (lv_at hl 3 rfl) ?_
                  refine va_iast hx hb hK hP hD hS 10 9 rfl rfl (vp_in_nI (by omega) (by omega)) dMD_cell_218 (fun H locs hP hD hS => ?_)
                  have e_u := z_upd (f := mm 9) (k := n) (v := e1_v) (by omega)
                  have hP : va_P (dC, dI) vwCl [(h0, .inr (6, [.int (nI mg), .ref b0, .ref b1, .int (nI n), .ref b2, .ref b3, .ref b4, .ref b5, .ref b6, .ref b7, .ref b8, .ref b9, .ref b10, .ref b11, .int (nI rg - nI 1), .int (nI rn), .int (nI ro), .int (nI sp), .int (nI gp), .int (nI fx), .ref b12, .ref b13, .ref b14, .ref b15, .ref b16, .ref b17])), (b0, .inl (kb0, 8, .inl (fun j => nI (mm 0 j)))), (b1, .inl (kb1, 8, .inl (fun j => nI (mm 1 j)))), (b2, .inl (kb2, 40, .inl (fun j => nI (va_up (mm 2) n i j)))), (b3, .inl (kb3, 40, .inl (fun j => nI (va_up (mm 3) n rn j)))), (b4, .inl (kb4, 40, .inl (fun j => nI (va_up (mm 4) n a_v j)))), (b5, .inl (kb5, 40, .inl (fun j => nI (va_up (mm 5) n b_v j)))), (b6, .inl (kb6, 40, .inl (fun j => nI (va_up (mm 6) n (rg - 1) j)))), (b7, .inl (kb7, 40, .inl (fun j => nI (va_up (mm 7) n c1_v j)))), (b8, .inl (kb8, 40, .inl (fun j => nI (va_up (mm 8) n d1_v j)))), (b9, .inl (kb9, 40, .inl (fun j => nI (va_up (mm 9) n e1_v j)))), (b10, .inl (kb10, 40, .inl (fun j => nI (mm 10 j)))), (b11, .inl (kb11, 40, .inl (fun j => nI (mm 11 j))))] H := by rw [← e_u]; exact hP
                  have hD : va_D A [(h0, .inr (6, [.int (nI mg), .ref b0, .ref b1, .int (nI n), .ref b2, .ref b3, .ref b4, .ref b5, .ref b6, .ref b7, .ref b8, .ref b9, .ref b10, .ref b11, .int (nI rg - nI 1), .int (nI rn), .int (nI ro), .int (nI sp), .int (nI gp), .int (nI fx), .ref b12, .ref b13, .ref b14, .ref b15, .ref b16, .ref b17])), (b0, .inl (kb0, 8, .inl (fun j => nI (mm 0 j)))), (b1, .inl (kb1, 8, .inl (fun j => nI (mm 1 j)))), (b2, .inl (kb2, 40, .inl (fun j => nI (va_up (mm 2) n i j)))), (b3, .inl (kb3, 40, .inl (fun j => nI (va_up (mm 3) n rn j)))), (b4, .inl (kb4, 40, .inl (fun j => nI (va_up (mm 4) n a_v j)))), (b5, .inl (kb5, 40, .inl (fun j => nI (va_up (mm 5) n b_v j)))), (b6, .inl (kb6, 40, .inl (fun j => nI (va_up (mm 6) n (rg - 1) j)))), (b7, .inl (kb7, 40, .inl (fun j => nI (va_up (mm 7) n c1_v j)))), (b8, .inl (kb8, 40, .inl (fun j => nI (va_up (mm 8) n d1_v j)))), (b9, .inl (kb9, 40, .inl (fun j => nI (va_up (mm 9) n e1_v j)))), (b10, .inl (kb10, 40, .inl (fun j => nI (mm 10 j)))), (b11, .inl (kb11, 40, .inl (fun j => nI (mm 11 j))))] := by rw [← e_u]; exact hD
                  refine lv_aload_n hx hb dMD_cell_219 rfl (lv_at hl 8 rfl) ?_
                  refine va_get (D := (dC, dI)) (ci := 6) (v := .ref b10) (C := RMD) (T := TMD) (N := 26) hx hb hz in_MD hown hK hP 0 rfl rfl 12 (by decide) (hz _ wd_596) (fun _ h9 => h9) rfl dMD_cell_220 ?_
                  refine lv_iload hx hb dMD_cell_223 (lv_at hl 0 rfl) ?_
                  refine lv_iconst (v := nI 0) hx hb dMD_cell_225 (by decide) ?_
                  refine va_iast hx hb hK hP hD hS 11 10 rfl rfl (vp_in_nI (by omega) (by omega)) dMD_cell_226 (fun H locs hP hD hS => ?_)
                  have e_u := z_upd (f := mm 10) (k := n) (v := 0) (by omega)
                  have hP : va_P (dC, dI) vwCl [(h0, .inr (6, [.int (nI mg), .ref b0, .ref b1, .int (nI n), .ref b2, .ref b3, .ref b4, .ref b5, .ref b6, .ref b7, .ref b8, .ref b9, .ref b10, .ref b11, .int (nI rg - nI 1), .int (nI rn), .int (nI ro), .int (nI sp), .int (nI gp), .int (nI fx), .ref b12, .ref b13, .ref b14, .ref b15, .ref b16, .ref b17])), (b0, .inl (kb0, 8, .inl (fun j => nI (mm 0 j)))), (b1, .inl (kb1, 8, .inl (fun j => nI (mm 1 j)))), (b2, .inl (kb2, 40, .inl (fun j => nI (va_up (mm 2) n i j)))), (b3, .inl (kb3, 40, .inl (fun j => nI (va_up (mm 3) n rn j)))), (b4, .inl (kb4, 40, .inl (fun j => nI (va_up (mm 4) n a_v j)))), (b5, .inl (kb5, 40, .inl (fun j => nI (va_up (mm 5) n b_v j)))), (b6, .inl (kb6, 40, .inl (fun j => nI (va_up (mm 6) n (rg - 1) j)))), (b7, .inl (kb7, 40, .inl (fun j => nI (va_up (mm 7) n c1_v j)))), (b8, .inl (kb8, 40, .inl (fun j => nI (va_up (mm 8) n d1_v j)))), (b9, .inl (kb9, 40, .inl (fun j => nI (va_up (mm 9) n e1_v j)))), (b10, .inl (kb10, 40, .inl (fun j => nI (va_up (mm 10) n 0 j)))), (b11, .inl (kb11, 40, .inl (fun j => nI (mm 11 j))))] H := by rw [← e_u]; exact hP
                  have hD : va_D A [(h0, .inr (6, [.int (nI mg), .ref b0, .ref b1, .int (nI n), .ref b2, .ref b3, .ref b4, .ref b5, .ref b6, .ref b7, .ref b8, .ref b9, .ref b10, .ref b11, .int (nI rg - nI 1), .int (nI rn), .int (nI ro), .int (nI sp), .int (nI gp), .int (nI fx), .ref b12, .ref b13, .ref b14, .ref b15, .ref b16, .ref b17])), (b0, .inl (kb0, 8, .inl (fun j => nI (mm 0 j)))), (b1, .inl (kb1, 8, .inl (fun j => nI (mm 1 j)))), (b2, .inl (kb2, 40, .inl (fun j => nI (va_up (mm 2) n i j)))), (b3, .inl (kb3, 40, .inl (fun j => nI (va_up (mm 3) n rn j)))), (b4, .inl (kb4, 40, .inl (fun j => nI (va_up (mm 4) n a_v j)))), (b5, .inl (kb5, 40, .inl (fun j => nI (va_up (mm 5) n b_v j)))), (b6, .inl (kb6, 40, .inl (fun j => nI (va_up (mm 6) n (rg - 1) j)))), (b7, .inl (kb7, 40, .inl (fun j => nI (va_up (mm 7) n c1_v j)))), (b8, .inl (kb8, 40, .inl (fun j => nI (va_up (mm 8) n d1_v j)))), (b9, .inl (kb9, 40, .inl (fun j => nI (va_up (mm 9) n e1_v j)))), (b10, .inl (kb10, 40, .inl (fun j => nI (va_up (mm 10) n 0 j)))), (b11, .inl (kb11, 40, .inl (fun j => nI (mm 11 j))))] := by rw [← e_u]; exact hD
                  refine lv_aload_n hx hb dMD_cell_227 rfl (lv_at hl 8 rfl) ?_
                  refine va_get (D := (dC, dI)) (ci := 6) (v := .ref b11) (C := RMD) (T := TMD) (N := 26) hx hb hz in_MD hown hK hP 0 rfl rfl 13 (by decide) (hz _ wd_597) (fun _ h9 => h9) rfl dMD_cell_228 ?_
                  refine lv_iload hx hb dMD_cell_231 (lv_at hl 0 rfl) ?_
                  refine lv_iconst (v := nI 0) hx hb dMD_cell_233 (by decide) ?_
                  refine va_iast hx hb hK hP hD hS 12 11 rfl rfl (vp_in_nI (by omega) (by omega)) dMD_cell_234 (fun H locs hP hD hS => ?_)
                  have e_u := z_upd (f := mm 11) (k := n) (v := 0) (by omega)
                  have hP : va_P (dC, dI) vwCl [(h0, .inr (6, [.int (nI mg), .ref b0, .ref b1, .int (nI n), .ref b2, .ref b3, .ref b4, .ref b5, .ref b6, .ref b7, .ref b8, .ref b9, .ref b10, .ref b11, .int (nI rg - nI 1), .int (nI rn), .int (nI ro), .int (nI sp), .int (nI gp), .int (nI fx), .ref b12, .ref b13, .ref b14, .ref b15, .ref b16, .ref b17])), (b0, .inl (kb0, 8, .inl (fun j => nI (mm 0 j)))), (b1, .inl (kb1, 8, .inl (fun j => nI (mm 1 j)))), (b2, .inl (kb2, 40, .inl (fun j => nI (va_up (mm 2) n i j)))), (b3, .inl (kb3, 40, .inl (fun j => nI (va_up (mm 3) n rn j)))), (b4, .inl (kb4, 40, .inl (fun j => nI (va_up (mm 4) n a_v j)))), (b5, .inl (kb5, 40, .inl (fun j => nI (va_up (mm 5) n b_v j)))), (b6, .inl (kb6, 40, .inl (fun j => nI (va_up (mm 6) n (rg - 1) j)))), (b7, .inl (kb7, 40, .inl (fun j => nI (va_up (mm 7) n c1_v j)))), (b8, .inl (kb8, 40, .inl (fun j => nI (va_up (mm 8) n d1_v j)))), (b9, .inl (kb9, 40, .inl (fun j => nI (va_up (mm 9) n e1_v j)))), (b10, .inl (kb10, 40, .inl (fun j => nI (va_up (mm 10) n 0 j)))), (b11, .inl (kb11, 40, .inl (fun j => nI (va_up (mm 11) n 0 j))))] H := by rw [← e_u]; exact hP
                  have hD : va_D A [(h0, .inr (6, [.int (nI mg), .ref b0, .ref b1, .int (nI n), .ref b2, .ref b3, .ref b4, .ref b5, .ref b6, .ref b7, .ref b8, .ref b9, .ref b10, .ref b11, .int (nI rg - nI 1), .int (nI rn), .int (nI ro), .int (nI sp), .int (nI gp), .int (nI fx), .ref b12, .ref b13, .ref b14, .ref b15, .ref b16, .ref b17])), (b0, .inl (kb0, 8, .inl (fun j => nI (mm 0 j)))), (b1, .inl (kb1, 8, .inl (fun j => nI (mm 1 j)))), (b2, .inl (kb2, 40, .inl (fun j => nI (va_up (mm 2) n i j)))), (b3, .inl (kb3, 40, .inl (fun j => nI (va_up (mm 3) n rn j)))), (b4, .inl (kb4, 40, .inl (fun j => nI (va_up (mm 4) n a_v j)))), (b5, .inl (kb5, 40, .inl (fun j => nI (va_up (mm 5) n b_v j)))), (b6, .inl (kb6, 40, .inl (fun j => nI (va_up (mm 6) n (rg - 1) j)))), (b7, .inl (kb7, 40, .inl (fun j => nI (va_up (mm 7) n c1_v j)))), (b8, .inl (kb8, 40, .inl (fun j => nI (va_up (mm 8) n d1_v j)))), (b9, .inl (kb9, 40, .inl (fun j => nI (va_up (mm 9) n e1_v j)))), (b10, .inl (kb10, 40, .inl (fun j => nI (va_up (mm 10) n 0 j)))), (b11, .inl (kb11, 40, .inl (fun j => nI (va_up (mm 11) n 0 j))))] := by rw [← e_u]; exact hD
                  refine lv_aload_n hx hb dMD_cell_235 rfl (lv_at hl 8 rfl) ?_
                  refine lv_iload hx hb dMD_cell_236 (lv_at hl 1 rfl) ?_
                  refine lv_iload_n hx hb dMD_cell_238 rfl (lv_at hl 7 rfl) ?_
                  refine lv_iadd hx hb dMD_cell_239 ?_
                  refine lv_topi (fun x39 e40 => ?_)
                  have e40 : x39 = nI (i + a_v) := e40.trans (nI_add _ _)
                  subst e40
                  refine va_put (D := (dC, dI)) (ci := 6) (v := .int (nI (i + a_v))) (ty := .int) (C := RMD) (T := TMD) (N := 26) hx hb hz in_MD tyMD tokMD nokMD hown hK hP hD hS 0 rfl rfl 16 (by decide) (hz _ wd_600) (fun _ h9 => h9) rfl (by decide +kernel) rfl rfl (Nat.le_of_ble_eq_true rfl) dMD_cell_240 (fun H locs hP hD hS => ?_)
                  have hP : va_P (dC, dI) vwCl [(h0, .inr (6, [.int (nI mg), .ref b0, .ref b1, .int (nI n), .ref b2, .ref b3, .ref b4, .ref b5, .ref b6, .ref b7, .ref b8, .ref b9, .ref b10, .ref b11, .int (nI rg - nI 1), .int (nI rn), .int (nI (i + a_v)), .int (nI sp), .int (nI gp), .int (nI fx), .ref b12, .ref b13, .ref b14, .ref b15, .ref b16, .ref b17])), (b0, .inl (kb0, 8, .inl (fun j => nI (mm 0 j)))), (b1, .inl (kb1, 8, .inl (fun j => nI (mm 1 j)))), (b2, .inl (kb2, 40, .inl (fun j => nI (va_up (mm 2) n i j)))), (b3, .inl (kb3, 40, .inl (fun j => nI (va_up (mm 3) n rn j)))), (b4, .inl (kb4, 40, .inl (fun j => nI (va_up (mm 4) n a_v j)))), (b5, .inl (kb5, 40, .inl (fun j => nI (va_up (mm 5) n b_v j)))), (b6, .inl (kb6, 40, .inl (fun j => nI (va_up (mm 6) n (rg - 1) j)))), (b7, .inl (kb7, 40, .inl (fun j => nI (va_up (mm 7) n c1_v j)))), (b8, .inl (kb8, 40, .inl (fun j => nI (va_up (mm 8) n d1_v j)))), (b9, .inl (kb9, 40, .inl (fun j => nI (va_up (mm 9) n e1_v j)))), (b10, .inl (kb10, 40, .inl (fun j => nI (va_up (mm 10) n 0 j)))), (b11, .inl (kb11, 40, .inl (fun j => nI (va_up (mm 11) n 0 j))))] H := hP
                  have hD : va_D A [(h0, .inr (6, [.int (nI mg), .ref b0, .ref b1, .int (nI n), .ref b2, .ref b3, .ref b4, .ref b5, .ref b6, .ref b7, .ref b8, .ref b9, .ref b10, .ref b11, .int (nI rg - nI 1), .int (nI rn), .int (nI (i + a_v)), .int (nI sp), .int (nI gp), .int (nI fx), .ref b12, .ref b13, .ref b14, .ref b15, .ref b16, .ref b17])), (b0, .inl (kb0, 8, .inl (fun j => nI (mm 0 j)))), (b1, .inl (kb1, 8, .inl (fun j => nI (mm 1 j)))), (b2, .inl (kb2, 40, .inl (fun j => nI (va_up (mm 2) n i j)))), (b3, .inl (kb3, 40, .inl (fun j => nI (va_up (mm 3) n rn j)))), (b4, .inl (kb4, 40, .inl (fun j => nI (va_up (mm 4) n a_v j)))), (b5, .inl (kb5, 40, .inl (fun j => nI (va_up (mm 5) n b_v j)))), (b6, .inl (kb6, 40, .inl (fun j => nI (va_up (mm 6) n (rg - 1) j)))), (b7, .inl (kb7, 40, .inl (fun j => nI (va_up (mm 7) n c1_v j)))), (b8, .inl (kb8, 40, .inl (fun j => nI (va_up (mm 8) n d1_v j)))), (b9, .inl (kb9, 40, .inl (fun j => nI (va_up (mm 9) n e1_v j)))), (b10, .inl (kb10, 40, .inl (fun j => nI (va_up (mm 10) n 0 j)))), (b11, .inl (kb11, 40, .inl (fun j => nI (va_up (mm 11) n 0 j))))] := hD
                  refine lv_aload_n hx hb dMD_cell_243 rfl (lv_at hl 8 rfl) ?_
                  refine lv_aload_n hx hb dMD_cell_244 rfl (lv_at hl 8 rfl) ?_
                  refine va_get (D := (dC, dI)) (ci := 6) (v := .int (nI n)) (C := RMD) (T := TMD) (N := 26) hx hb hz in_MD hown hK hP 0 rfl rfl 3 (by decide) (hz _ wd_587) (fun _ h9 => h9) rfl dMD_cell_245 ?_
                  refine lv_iconst (v := nI 1) hx hb dMD_cell_248 (by decide) ?_
                  refine lv_iadd hx hb dMD_cell_249 ?_
                  refine lv_topi (fun x41 e42 => ?_)
                  have e42 : x41 = nI (n + 1) := e42.trans (nI_add _ _)
                  subst e42
                  refine va_put (D := (dC, dI)) (ci := 6) (v := .int (nI (n + 1))) (ty := .int) (C := RMD) (T := TMD) (N := 26) hx hb hz in_MD tyMD tokMD nokMD hown hK hP hD hS 0 rfl rfl 3 (by decide) (hz _ wd_587) (fun _ h9 => h9) rfl (by decide +kernel) rfl rfl (Nat.le_of_ble_eq_true rfl) dMD_cell_250 (fun H locs hP hD hS => ?_)
                  have hP : va_P (dC, dI) vwCl [(h0, .inr (6, [.int (nI mg), .ref b0, .ref b1, .int (nI (n + 1)), .ref b2, .ref b3, .ref b4, .ref b5, .ref b6, .ref b7, .ref b8, .ref b9, .ref b10, .ref b11, .int (nI rg - nI 1), .int (nI rn), .int (nI (i + a_v)), .int (nI sp), .int (nI gp), .int (nI fx), .ref b12, .ref b13, .ref b14, .ref b15, .ref b16, .ref b17])), (b0, .inl (kb0, 8, .inl (fun j => nI (mm 0 j)))), (b1, .inl (kb1, 8, .inl (fun j => nI (mm 1 j)))), (b2, .inl (kb2, 40, .inl (fun j => nI (va_up (mm 2) n i j)))), (b3, .inl (kb3, 40, .inl (fun j => nI (va_up (mm 3) n rn j)))), (b4, .inl (kb4, 40, .inl (fun j => nI (va_up (mm 4) n a_v j)))), (b5, .inl (kb5, 40, .inl (fun j => nI (va_up (mm 5) n b_v j)))), (b6, .inl (kb6, 40, .inl (fun j => nI (va_up (mm 6) n (rg - 1) j)))), (b7, .inl (kb7, 40, .inl (fun j => nI (va_up (mm 7) n c1_v j)))), (b8, .inl (kb8, 40, .inl (fun j => nI (va_up (mm 8) n d1_v j)))), (b9, .inl (kb9, 40, .inl (fun j => nI (va_up (mm 9) n e1_v j)))), (b10, .inl (kb10, 40, .inl (fun j => nI (va_up (mm 10) n 0 j)))), (b11, .inl (kb11, 40, .inl (fun j => nI (va_up (mm 11) n 0 j))))] H := hP
                  have hD : va_D A [(h0, .inr (6, [.int (nI mg), .ref b0, .ref b1, .int (nI (n + 1)), .ref b2, .ref b3, .ref b4, .ref b5, .ref b6, .ref b7, .ref b8, .ref b9, .ref b10, .ref b11, .int (nI rg - nI 1), .int (nI rn), .int (nI (i + a_v)), .int (nI sp), .int (nI gp), .int (nI fx), .ref b12, .ref b13, .ref b14, .ref b15, .ref b16, .ref b17])), (b0, .inl (kb0, 8, .inl (fun j => nI (mm 0 j)))), (b1, .inl (kb1, 8, .inl (fun j => nI (mm 1 j)))), (b2, .inl (kb2, 40, .inl (fun j => nI (va_up (mm 2) n i j)))), (b3, .inl (kb3, 40, .inl (fun j => nI (va_up (mm 3) n rn j)))), (b4, .inl (kb4, 40, .inl (fun j => nI (va_up (mm 4) n a_v j)))), (b5, .inl (kb5, 40, .inl (fun j => nI (va_up (mm 5) n b_v j)))), (b6, .inl (kb6, 40, .inl (fun j => nI (va_up (mm 6) n (rg - 1) j)))), (b7, .inl (kb7, 40, .inl (fun j => nI (va_up (mm 7) n c1_v j)))), (b8, .inl (kb8, 40, .inl (fun j => nI (va_up (mm 8) n d1_v j)))), (b9, .inl (kb9, 40, .inl (fun j => nI (va_up (mm 9) n e1_v j)))), (b10, .inl (kb10, 40, .inl (fun j => nI (va_up (mm 10) n 0 j)))), (b11, .inl (kb11, 40, .inl (fun j => nI (va_up (mm 11) n 0 j))))] := hD
                  refine lv_iload hx hb dMD_cell_253 (lv_at hl 0 rfl) ?_
                  subst hQ
                  exact zw_iret (D := (dC, dI)) (cl := vwCl) (A := A) (n + 1, i + a_v, zmPt mm n i rn a_v b_v (rg - 1) c1_v d1_v e1_v) hx hb hr hlocks (Or.inr ⟨⟨h_g2, by omega, by omega⟩, i, a_v, b_v, c1_v, d1_v, e1_v, ⟨by omega, by omega, hxI, fun _ => h_b⟩, rfl, rfl, rfl, rfl, rfl, Or.inr ⟨by omega, rfl, rfl, rfl, rfl⟩⟩) (hP.sub [0, 1, 2, 3, 4, 5, 6, 7, 8, 9, 10, 11, 12] rfl) (hK.sub [] rfl) (hD.sub [0, 1, 2, 3, 4, 5, 6, 7, 8, 9, 10, 11, 12] (by decide) rfl) hS dMD_cell_255
                · have h36 := z_nle h36
                  refine lv_iconst (v := (-1)) hx hb dMD_cell_138 (by decide) ?_
                  subst hQ
                  exact zw_iret (D := (dC, dI)) (cl := vwCl) (A := A) (n, ro, mm) hx hb hr hlocks (Or.inr ⟨⟨h_g2, by omega, by omega⟩, i, a_v, b_v, c1_v, d1_v, e1_v, ⟨by omega, by omega, hxI, fun _ => h_b⟩, rfl, rfl, rfl, rfl, rfl, Or.inl ⟨by omega, rfl, rfl, rfl, rfl⟩⟩) (hP.sub [0, 1, 2, 3, 4, 5, 6, 7, 8, 9, 10, 11, 12] rfl) (hK.sub [] rfl) (hD.sub [0, 1, 2, 3, 4, 5, 6, 7, 8, 9, 10, 11, 12] (by decide) rfl) hS dMD_cell_139
            · have h_b := z_yT h_rb h_b
              refine lv_iload hx hb dMD_cell_109 (lv_at hl 0 rfl) ?_
              refine lv_iconst (v := nI 1) hx hb dMD_cell_111 (by decide) ?_
              refine lv_iadd hx hb dMD_cell_112 ?_
              refine lv_topi (fun x43 e44 => ?_)
              have e44 : x43 = nI (i + 1) := e44.trans (nI_add _ _)
              subst e44
              refine lv_istore hx hb dMD_cell_113 hl (Nat.le_of_ble_eq_true rfl) rfl (fun ls hl => ?_)
              have hl : lv_has ls 9 [(7, .int (nI (i + 1))), (6, .int v1), (5, .int (nI e1_v)), (4, .int (nI d1_v)), (3, .int (nI c1_v)), (2, .int (nI b_v)), (1, .int (nI a_v)), (0, .ref h0)] := hl
              refine lv_goto (tgt := 93) hx hb dMD_cell_115 rfl ?_
              exact ih () ls ⟨lv_sub hl [0, 1, 2, 3, 4, 5, 6, 7] rfl, by omega, z_lts hxI h_b⟩
        · have h_n := z_eq h_n
          refine lv_iconst (v := (-1)) hx hb dMD_cell_85 (by decide) ?_
          subst hQ
          exact zw_iret (D := (dC, dI)) (cl := vwCl) (A := A) (n, ro, mm) hx hb hr hlocks (Or.inl ⟨fun h9 => by have := h9.2.2; omega, rfl, rfl, rfl, rfl⟩) (hP.sub [0, 1, 2, 3, 4, 5, 6, 7, 8, 9, 10, 11, 12] rfl) (hK.sub [] rfl) (hD.sub [0, 1, 2, 3, 4, 5, 6, 7, 8, 9, 10, 11, 12] (by decide) rfl) hS dMD_cell_86
  · refine lv_iload_n hx hb dMD_cell_0 rfl (lv_at hl 1 rfl) ?_
    have t45 : (0 : Int32).toInt = 0 := by decide
    refine lv_if_le (tgt := 55) hx hb dMD_cell_1 rfl (fun h46 => ?_) (fun h46 => ?_)
    · have h46 := z_le h46
      refine lv_iconst (v := nI 0) hx hb dMD_cell_55 (by decide) ?_
      exact J56 _ (z_y0 (show ¬ (_ ∧ _) by omega))
    · have h46 := z_nle h46
      refine lv_iload_n hx hb dMD_cell_4 rfl (lv_at hl 1 rfl) ?_
      refine lv_bipush (v := nI 7) hx hb dMD_cell_5 (by decide) ?_
      have t47 := nI_toInt (n := 7) (by omega)
      refine lv_icmp_ge (tgt := 55) hx hb dMD_cell_7 rfl (fun h48 => ?_) (fun h48 => ?_)
      · have h48 := z_le h48
        refine lv_iconst (v := nI 0) hx hb dMD_cell_55 (by decide) ?_
        exact J56 _ (z_y0 (show ¬ (_ ∧ _) by omega))
      · have h48 := z_nle h48
        refine lv_iload_n hx hb dMD_cell_10 rfl (lv_at hl 2 rfl) ?_
        have t49 : (0 : Int32).toInt = 0 := by decide
        refine lv_if_lt (tgt := 55) hx hb dMD_cell_11 rfl (fun h50 => ?_) (fun h50 => ?_)
        · have h50 := z_lt h50
          refine lv_iconst (v := nI 0) hx hb dMD_cell_55 (by decide) ?_
          exact J56 _ (z_y0 (show ¬ (_ ∧ _) by omega))
        · have h50 := z_nlt h50
          refine lv_iload_n hx hb dMD_cell_14 rfl (lv_at hl 2 rfl) ?_
          refine lv_bipush (v := nI 7) hx hb dMD_cell_15 (by decide) ?_
          have t51 := nI_toInt (n := 7) (by omega)
          refine lv_icmp_ge (tgt := 55) hx hb dMD_cell_17 rfl (fun h52 => ?_) (fun h52 => ?_)
          · have h52 := z_le h52
            refine lv_iconst (v := nI 0) hx hb dMD_cell_55 (by decide) ?_
            exact J56 _ (z_y0 (show ¬ (_ ∧ _) by omega))
          · have h52 := z_nle h52
            refine lv_iload_n hx hb dMD_cell_20 rfl (lv_at hl 3 rfl) ?_
            have t53 : (0 : Int32).toInt = 0 := by decide
            refine lv_if_lt (tgt := 55) hx hb dMD_cell_21 rfl (fun h54 => ?_) (fun h54 => ?_)
            · have h54 := z_lt h54
              refine lv_iconst (v := nI 0) hx hb dMD_cell_55 (by decide) ?_
              exact J56 _ (z_y0 (show ¬ (_ ∧ _) by omega))
            · have h54 := z_nlt h54
              refine lv_iload_n hx hb dMD_cell_24 rfl (lv_at hl 3 rfl) ?_
              refine lv_iload hx hb dMD_cell_25 (lv_at hl 4 rfl) ?_
              refine lv_icmp_gt (tgt := 55) hx hb dMD_cell_27 rfl (fun h55 => ?_) (fun h55 => ?_)
              · have h55 := z_lt h55
                refine lv_iconst (v := nI 0) hx hb dMD_cell_55 (by decide) ?_
                exact J56 _ (z_y0 (show ¬ (_ ∧ _) by omega))
              · have h55 := z_nlt h55
                refine lv_iload hx hb dMD_cell_30 (lv_at hl 4 rfl) ?_
                refine lv_sipush (v := nI 1000) hx hb dMD_cell_32 (by decide) ?_
                have t56 := nI_toInt (n := 1000) (by omega)
                refine lv_icmp_gt (tgt := 55) hx hb dMD_cell_35 rfl (fun h57 => ?_) (fun h57 => ?_)
                · have h57 := z_lt h57
                  refine lv_iconst (v := nI 0) hx hb dMD_cell_55 (by decide) ?_
                  exact J56 _ (z_y0 (show ¬ (_ ∧ _) by omega))
                · have h57 := z_nlt h57
                  refine lv_iload hx hb dMD_cell_38 (lv_at hl 5 rfl) ?_
                  have t58 : (0 : Int32).toInt = 0 := by decide
                  refine lv_if_lt (tgt := 55) hx hb dMD_cell_40 rfl (fun h59 => ?_) (fun h59 => ?_)
                  · have h59 := z_lt h59
                    refine lv_iconst (v := nI 0) hx hb dMD_cell_55 (by decide) ?_
                    exact J56 _ (z_y0 (show ¬ (_ ∧ _) by omega))
                  · have h59 := z_nlt h59
                    refine lv_iload hx hb dMD_cell_43 (lv_at hl 5 rfl) ?_
                    refine lv_sipush (v := nI 1000) hx hb dMD_cell_45 (by decide) ?_
                    have t60 := nI_toInt (n := 1000) (by omega)
                    refine lv_icmp_gt (tgt := 55) hx hb dMD_cell_48 rfl (fun h61 => ?_) (fun h61 => ?_)
                    · have h61 := z_lt h61
                      refine lv_iconst (v := nI 0) hx hb dMD_cell_55 (by decide) ?_
                      exact J56 _ (z_y0 (show ¬ (_ ∧ _) by omega))
                    · have h61 := z_nlt h61
                      refine lv_iconst (v := nI 1) hx hb dMD_cell_51 (by decide) ?_
                      refine lv_goto (tgt := 56) hx hb dMD_cell_52 rfl ?_
                      exact J56 _ (z_y1 (show _ ∧ _ by omega))

set_option maxHeartbeats 4000000 in
set_option maxRecDepth 100000 in
theorem f_MD_border (l : Launch) (dC : Nat → ClassId) (dI : Nat → Nat → Nat) (h0 : Nat) (b0 : Nat) (b1 : Nat) (b2 : Nat) (b3 : Nat) (b4 : Nat) (b5 : Nat) (b6 : Nat) (b7 : Nat) (b8 : Nat) (b9 : Nat) (b10 : Nat) (b11 : Nat) (b12 : Nat) (b13 : Nat) (b14 : Nat) (b15 : Nat) (b16 : Nat) (b17 : Nat) (kb0 : ClassId) (kb1 : ClassId) (kb2 : ClassId) (kb3 : ClassId) (kb4 : ClassId) (kb5 : ClassId) (kb6 : ClassId) (kb7 : ClassId) (kb8 : ClassId) (kb9 : ClassId) (kb10 : ClassId) (kb11 : ClassId) (mg : Nat) (n : Nat) (rg : Nat) (rn : Nat) (ro : Nat) (sp : Nat) (gp : Nat) (fx : Nat) (mm : Nat → Nat → Nat) (k : Int32) (t : Int32) (w : Int32) (hm : ∀ a k, mm a k ≤ 1000) (hn : n ≤ 40) (hg : 1 ≤ mg ∧ mg ≤ 8 ∧ rg ≤ 8 ∧ rn ≤ 1000 ∧ ro ≤ 1000) (hG : ∀ k, k < n → mm 6 k < 8) (hE : ∀ k, k < n → mm 3 k ≤ zEn mm (mm 6 k) n) : zw_Mi (S := (Nat → Nat → Nat)) l yMD_border wMD_border ({ frames := 1, cells := 0, slots := 0, locals := 21 }) [.ref h0, .int k, .int t, .int w] (dC, dI) vwCl [(h0, .inr (6, [.int (nI mg), .ref b0, .ref b1, .int (nI n), .ref b2, .ref b3, .ref b4, .ref b5, .ref b6, .ref b7, .ref b8, .ref b9, .ref b10, .ref b11, .int (nI rg - nI 1), .int (nI rn), .int (nI ro), .int (nI sp), .int (nI gp), .int (nI fx), .ref b12, .ref b13, .ref b14, .ref b15, .ref b16, .ref b17])), (b0, .inl (kb0, 8, .inl (fun j => nI (mm 0 j)))), (b1, .inl (kb1, 8, .inl (fun j => nI (mm 1 j)))), (b2, .inl (kb2, 40, .inl (fun j => nI (mm 2 j)))), (b3, .inl (kb3, 40, .inl (fun j => nI (mm 3 j)))), (b4, .inl (kb4, 40, .inl (fun j => nI (mm 4 j)))), (b5, .inl (kb5, 40, .inl (fun j => nI (mm 5 j)))), (b6, .inl (kb6, 40, .inl (fun j => nI (mm 6 j)))), (b7, .inl (kb7, 40, .inl (fun j => nI (mm 7 j)))), (b8, .inl (kb8, 40, .inl (fun j => nI (mm 8 j)))), (b9, .inl (kb9, 40, .inl (fun j => nI (mm 9 j)))), (b10, .inl (kb10, 40, .inl (fun j => nI (mm 10 j)))), (b11, .inl (kb11, 40, .inl (fun j => nI (mm 11 j))))] [(kb0, .int), (kb1, .int), (kb2, .int), (kb3, .int), (kb4, .int), (kb5, .int), (kb6, .int), (kb7, .int), (kb8, .int), (kb9, .int), (kb10, .int), (kb11, .int)] (fun _ _ => True) (fun r (m2 : Nat → Nat → Nat) => (¬ ((0 ≤ k.toInt ∧ k.toInt < n) ∧ (0 ≤ t.toInt ∧ t.toInt ≤ 9) ∧ (0 ≤ w.toInt ∧ w.toInt ≤ 4)) ∧ r = 0 ∧ m2 = mm) ∨ ∃ k1 t1 w1, k1 < n ∧ t1 ≤ 9 ∧ w1 ≤ 4 ∧ k = nI k1 ∧ t = nI t1 ∧ w = nI w1 ∧ r = 1 ∧ m2 = zmBo mm k1 t1 w1) (fun (m2 : Nat → Nat → Nat) => [(h0, .inr (6, [.int (nI mg), .ref b0, .ref b1, .int (nI n), .ref b2, .ref b3, .ref b4, .ref b5, .ref b6, .ref b7, .ref b8, .ref b9, .ref b10, .ref b11, .int (nI rg - nI 1), .int (nI rn), .int (nI ro), .int (nI sp), .int (nI gp), .int (nI fx), .ref b12, .ref b13, .ref b14, .ref b15, .ref b16, .ref b17])), (b0, .inl (kb0, 8, .inl (fun j => nI (m2 0 j)))), (b1, .inl (kb1, 8, .inl (fun j => nI (m2 1 j)))), (b2, .inl (kb2, 40, .inl (fun j => nI (m2 2 j)))), (b3, .inl (kb3, 40, .inl (fun j => nI (m2 3 j)))), (b4, .inl (kb4, 40, .inl (fun j => nI (m2 4 j)))), (b5, .inl (kb5, 40, .inl (fun j => nI (m2 5 j)))), (b6, .inl (kb6, 40, .inl (fun j => nI (m2 6 j)))), (b7, .inl (kb7, 40, .inl (fun j => nI (m2 7 j)))), (b8, .inl (kb8, 40, .inl (fun j => nI (m2 8 j)))), (b9, .inl (kb9, 40, .inl (fun j => nI (m2 9 j)))), (b10, .inl (kb10, 40, .inl (fun j => nI (m2 10 j)))), (b11, .inl (kb11, 40, .inl (fun j => nI (m2 11 j))))]) (fun (m2 : Nat → Nat → Nat) => []) 0 0 := by
  refine zw_headi (cc := cMD_border) (maxL := 4) (ret := (some .boolean)) (by decide +kernel) rfl (Nat.le_of_ble_eq_true rfl) ?_
  intro p e s m below meth c ls A F hA hP hK hD hS hX hl
  obtain ⟨hx, hb, hml, hr, hlocks, hown, hts⟩ := F
  have hown : s.vm.findClass "SpannedCellsModel" = some m.cls := hown
  have hz : ∀ w9 ∈ zT, w9.before [.ref h0, .int k, .int t, .int w].toArray s = true := fun w9 h => hts w9 (List.mem_cons_of_mem _ h)
  have hl : lv_has ls 4 [(0, .ref h0), (1, .int k), (2, .int t), (3, .int w)] := hl
  refine z_q (fun Q hQ => ?_)
  refine lv_aload_n hx hb dMD_border_0 rfl (lv_at hl 0 rfl) ?_
  refine lv_iload_n hx hb dMD_border_1 rfl (lv_at hl 1 rfl) ?_
  refine vp_callSi (W.runV (As := [.int k]) (rest := []) ⟨hx, hb, hml, hown, hz⟩ (f_MD_isCell l dC dI h0 b0 b1 b2 b3 b4 b5 b6 b7 b8 b9 b10 b11 b12 b13 b14 b15 b16 b17 kb0 kb1 kb2 kb3 kb4 kb5 kb6 kb7 kb8 kb9 kb10 kb11 mg n _ rn ro sp gp fx _ k (hm) (by omega) (hg) (hG) (hE)) (cwV 1 hz (z_gV wd_688 wd_690 wd_15 wd_37 wd_691) rfl rfl rfl (by decide +kernel) ⟨Nat.le_of_ble_eq_true rfl, Nat.le_of_ble_eq_true rfl⟩) (zr_preV hK (hP.sub [0, 1, 2, 3, 4, 5, 6, 7, 8, 9, 10, 11, 12] rfl) (va_recv (q0 := 0) hK hP (q := (RMD, TMD, 26)) rfl rfl) [0, 1, 2, 3, 4, 5, 6, 7, 8, 9, 10, 11] rfl z_true (fun _ _ _ => trivial)) rfl rfl hl.1 rfl (lv_room (Nat.le_of_ble_eq_true rfl)) dMD_border_2 ⟨Nat.le_of_ble_eq_true rfl, Nat.le_of_ble_eq_true rfl⟩) (fun ra h_ra => ?_)
  have h_ra : z_yn ra (0 ≤ k.toInt ∧ k.toInt < n) := h_ra
  refine lv_if_eq (tgt := 27) hx hb dMD_border_5 rfl (fun h_b => ?_) (fun h_b => ?_)
  · have h_b := z_yF h_ra h_b
    refine lv_iconst (v := nI 0) hx hb dMD_border_27 (by decide) ?_
    subst hQ
    exact zw_zret (D := (dC, dI)) (cl := vwCl) (A := A) mm hx hb hr hlocks (Or.inl rfl) (Or.inl ⟨fun h9 => h_b h9.1, rfl, rfl⟩) (hP.sub [0, 1, 2, 3, 4, 5, 6, 7, 8, 9, 10, 11, 12] rfl) (hK.sub [] rfl) (hD.sub [0, 1, 2, 3, 4, 5, 6, 7, 8, 9, 10, 11, 12] (by decide) rfl) hS dMD_border_28
  · have h_b := z_yT h_ra h_b
    have h_a := h_b
    refine lv_iload_n hx hb dMD_border_8 rfl (lv_at hl 2 rfl) ?_
    have t2 : (0 : Int32).toInt = 0 := by decide
    refine lv_if_lt (tgt := 27) hx hb dMD_border_9 rfl (fun h3 => ?_) (fun h3 => ?_)
    · have h3 := z_lt h3
      refine lv_iconst (v := nI 0) hx hb dMD_border_27 (by decide) ?_
      subst hQ
      exact zw_zret (D := (dC, dI)) (cl := vwCl) (A := A) mm hx hb hr hlocks (Or.inl rfl) (Or.inl ⟨by omega, rfl, rfl⟩) (hP.sub [0, 1, 2, 3, 4, 5, 6, 7, 8, 9, 10, 11, 12] rfl) (hK.sub [] rfl) (hD.sub [0, 1, 2, 3, 4, 5, 6, 7, 8, 9, 10, 11, 12] (by decide) rfl) hS dMD_border_28
    · have h3 := z_nlt h3
      refine lv_iload_n hx hb dMD_border_12 rfl (lv_at hl 2 rfl) ?_
      refine lv_bipush (v := nI 9) hx hb dMD_border_13 (by decide) ?_
      have t4 := nI_toInt (n := 9) (by omega)
      refine lv_icmp_gt (tgt := 27) hx hb dMD_border_15 rfl (fun h5 => ?_) (fun h5 => ?_)
      · have h5 := z_lt h5
        refine lv_iconst (v := nI 0) hx hb dMD_border_27 (by decide) ?_
        subst hQ
        exact zw_zret (D := (dC, dI)) (cl := vwCl) (A := A) mm hx hb hr hlocks (Or.inl rfl) (Or.inl ⟨by omega, rfl, rfl⟩) (hP.sub [0, 1, 2, 3, 4, 5, 6, 7, 8, 9, 10, 11, 12] rfl) (hK.sub [] rfl) (hD.sub [0, 1, 2, 3, 4, 5, 6, 7, 8, 9, 10, 11, 12] (by decide) rfl) hS dMD_border_28
      · have h5 := z_nlt h5
        refine lv_iload_n hx hb dMD_border_18 rfl (lv_at hl 3 rfl) ?_
        have t6 : (0 : Int32).toInt = 0 := by decide
        refine lv_if_lt (tgt := 27) hx hb dMD_border_19 rfl (fun h7 => ?_) (fun h7 => ?_)
        · have h7 := z_lt h7
          refine lv_iconst (v := nI 0) hx hb dMD_border_27 (by decide) ?_
          subst hQ
          exact zw_zret (D := (dC, dI)) (cl := vwCl) (A := A) mm hx hb hr hlocks (Or.inl rfl) (Or.inl ⟨by omega, rfl, rfl⟩) (hP.sub [0, 1, 2, 3, 4, 5, 6, 7, 8, 9, 10, 11, 12] rfl) (hK.sub [] rfl) (hD.sub [0, 1, 2, 3, 4, 5, 6, 7, 8, 9, 10, 11, 12] (by decide) rfl) hS dMD_border_28
        · have h7 := z_nlt h7
          refine lv_iload_n hx hb dMD_border_22 rfl (lv_at hl 3 rfl) ?_
          refine lv_iconst (v := nI 4) hx hb dMD_border_23 (by decide) ?_
          have t8 := nI_toInt (n := 4) (by omega)
          refine lv_icmp_le (tgt := 29) hx hb dMD_border_24 rfl (fun h_w => ?_) (fun h_w => ?_)
          · have h_w := z_le h_w
            obtain ⟨k1, hk1, rfl⟩ := z_ofIn (c := k) h_a.1 h_a.2 (by omega)
            obtain ⟨t1, ht1, rfl⟩ := z_ofIn (c := t) (n := 10) (by omega) (by omega) (by omega)
            obtain ⟨w1, hw1, rfl⟩ := z_ofIn (c := w) (n := 5) (by omega) (by omega) (by omega)
            refine lv_aload_n hx hb dMD_border_29 rfl (lv_at hl 0 rfl) ?_
            refine va_get (D := (dC, dI)) (ci := 6) (v := .ref b10) (C := RMD) (T := TMD) (N := 26) hx hb hz in_MD hown hK hP 0 rfl rfl 12 (by decide) (hz _ wd_596) (fun _ h9 => h9) rfl dMD_border_30 ?_
            refine lv_iload_n hx hb dMD_border_33 rfl (lv_at hl 1 rfl) ?_
            refine lv_iload_n hx hb dMD_border_34 rfl (lv_at hl 2 rfl) ?_
            refine va_iast hx hb hK hP hD hS 11 10 rfl rfl (vp_in_nI (by omega) (by omega)) dMD_border_35 (fun H locs hP hD hS => ?_)
            have e_u := z_upd (f := mm 10) (k := k1) (v := t1) (by omega)
            have hP : va_P (dC, dI) vwCl [(h0, .inr (6, [.int (nI mg), .ref b0, .ref b1, .int (nI n), .ref b2, .ref b3, .ref b4, .ref b5, .ref b6, .ref b7, .ref b8, .ref b9, .ref b10, .ref b11, .int (nI rg - nI 1), .int (nI rn), .int (nI ro), .int (nI sp), .int (nI gp), .int (nI fx), .ref b12, .ref b13, .ref b14, .ref b15, .ref b16, .ref b17])), (b0, .inl (kb0, 8, .inl (fun j => nI (mm 0 j)))), (b1, .inl (kb1, 8, .inl (fun j => nI (mm 1 j)))), (b2, .inl (kb2, 40, .inl (fun j => nI (mm 2 j)))), (b3, .inl (kb3, 40, .inl (fun j => nI (mm 3 j)))), (b4, .inl (kb4, 40, .inl (fun j => nI (mm 4 j)))), (b5, .inl (kb5, 40, .inl (fun j => nI (mm 5 j)))), (b6, .inl (kb6, 40, .inl (fun j => nI (mm 6 j)))), (b7, .inl (kb7, 40, .inl (fun j => nI (mm 7 j)))), (b8, .inl (kb8, 40, .inl (fun j => nI (mm 8 j)))), (b9, .inl (kb9, 40, .inl (fun j => nI (mm 9 j)))), (b10, .inl (kb10, 40, .inl (fun j => nI (va_up (mm 10) k1 t1 j)))), (b11, .inl (kb11, 40, .inl (fun j => nI (mm 11 j))))] H := by rw [← e_u]; exact hP
            have hD : va_D A [(h0, .inr (6, [.int (nI mg), .ref b0, .ref b1, .int (nI n), .ref b2, .ref b3, .ref b4, .ref b5, .ref b6, .ref b7, .ref b8, .ref b9, .ref b10, .ref b11, .int (nI rg - nI 1), .int (nI rn), .int (nI ro), .int (nI sp), .int (nI gp), .int (nI fx), .ref b12, .ref b13, .ref b14, .ref b15, .ref b16, .ref b17])), (b0, .inl (kb0, 8, .inl (fun j => nI (mm 0 j)))), (b1, .inl (kb1, 8, .inl (fun j => nI (mm 1 j)))), (b2, .inl (kb2, 40, .inl (fun j => nI (mm 2 j)))), (b3, .inl (kb3, 40, .inl (fun j => nI (mm 3 j)))), (b4, .inl (kb4, 40, .inl (fun j => nI (mm 4 j)))), (b5, .inl (kb5, 40, .inl (fun j => nI (mm 5 j)))), (b6, .inl (kb6, 40, .inl (fun j => nI (mm 6 j)))), (b7, .inl (kb7, 40, .inl (fun j => nI (mm 7 j)))), (b8, .inl (kb8, 40, .inl (fun j => nI (mm 8 j)))), (b9, .inl (kb9, 40, .inl (fun j => nI (mm 9 j)))), (b10, .inl (kb10, 40, .inl (fun j => nI (va_up (mm 10) k1 t1 j)))), (b11, .inl (kb11, 40, .inl (fun j => nI (mm 11 j))))] := by rw [← e_u]; exact hD
            refine lv_aload_n hx hb dMD_border_36 rfl (lv_at hl 0 rfl) ?_
            refine va_get (D := (dC, dI)) (ci := 6) (v := .ref b11) (C := RMD) (T := TMD) (N := 26) hx hb hz in_MD hown hK hP 0 rfl rfl 13 (by decide) (hz _ wd_597) (fun _ h9 => h9) rfl dMD_border_37 ?_
            refine lv_iload_n hx hb dMD_border_40 rfl (lv_at hl 1 rfl) ?_
            refine lv_iload_n hx hb dMD_border_41 rfl (lv_at hl 3 rfl) ?_
            refine va_iast hx hb hK hP hD hS 12 11 rfl rfl (vp_in_nI (by omega) (by omega)) dMD_border_42 (fun H locs hP hD hS => ?_)
            have e_u := z_upd (f := mm 11) (k := k1) (v := w1) (by omega)
            have hP : va_P (dC, dI) vwCl [(h0, .inr (6, [.int (nI mg), .ref b0, .ref b1, .int (nI n), .ref b2, .ref b3, .ref b4, .ref b5, .ref b6, .ref b7, .ref b8, .ref b9, .ref b10, .ref b11, .int (nI rg - nI 1), .int (nI rn), .int (nI ro), .int (nI sp), .int (nI gp), .int (nI fx), .ref b12, .ref b13, .ref b14, .ref b15, .ref b16, .ref b17])), (b0, .inl (kb0, 8, .inl (fun j => nI (mm 0 j)))), (b1, .inl (kb1, 8, .inl (fun j => nI (mm 1 j)))), (b2, .inl (kb2, 40, .inl (fun j => nI (mm 2 j)))), (b3, .inl (kb3, 40, .inl (fun j => nI (mm 3 j)))), (b4, .inl (kb4, 40, .inl (fun j => nI (mm 4 j)))), (b5, .inl (kb5, 40, .inl (fun j => nI (mm 5 j)))), (b6, .inl (kb6, 40, .inl (fun j => nI (mm 6 j)))), (b7, .inl (kb7, 40, .inl (fun j => nI (mm 7 j)))), (b8, .inl (kb8, 40, .inl (fun j => nI (mm 8 j)))), (b9, .inl (kb9, 40, .inl (fun j => nI (mm 9 j)))), (b10, .inl (kb10, 40, .inl (fun j => nI (va_up (mm 10) k1 t1 j)))), (b11, .inl (kb11, 40, .inl (fun j => nI (va_up (mm 11) k1 w1 j))))] H := by rw [← e_u]; exact hP
            have hD : va_D A [(h0, .inr (6, [.int (nI mg), .ref b0, .ref b1, .int (nI n), .ref b2, .ref b3, .ref b4, .ref b5, .ref b6, .ref b7, .ref b8, .ref b9, .ref b10, .ref b11, .int (nI rg - nI 1), .int (nI rn), .int (nI ro), .int (nI sp), .int (nI gp), .int (nI fx), .ref b12, .ref b13, .ref b14, .ref b15, .ref b16, .ref b17])), (b0, .inl (kb0, 8, .inl (fun j => nI (mm 0 j)))), (b1, .inl (kb1, 8, .inl (fun j => nI (mm 1 j)))), (b2, .inl (kb2, 40, .inl (fun j => nI (mm 2 j)))), (b3, .inl (kb3, 40, .inl (fun j => nI (mm 3 j)))), (b4, .inl (kb4, 40, .inl (fun j => nI (mm 4 j)))), (b5, .inl (kb5, 40, .inl (fun j => nI (mm 5 j)))), (b6, .inl (kb6, 40, .inl (fun j => nI (mm 6 j)))), (b7, .inl (kb7, 40, .inl (fun j => nI (mm 7 j)))), (b8, .inl (kb8, 40, .inl (fun j => nI (mm 8 j)))), (b9, .inl (kb9, 40, .inl (fun j => nI (mm 9 j)))), (b10, .inl (kb10, 40, .inl (fun j => nI (va_up (mm 10) k1 t1 j)))), (b11, .inl (kb11, 40, .inl (fun j => nI (va_up (mm 11) k1 w1 j))))] := by rw [← e_u]; exact hD
            refine lv_iconst (v := nI 1) hx hb dMD_border_43 (by decide) ?_
            subst hQ
            exact zw_zret (D := (dC, dI)) (cl := vwCl) (A := A) (zmBo mm k1 t1 w1) hx hb hr hlocks (Or.inr rfl) (Or.inr ⟨k1, t1, w1, hk1, by omega, by omega, rfl, rfl, rfl, rfl, rfl⟩) (hP.sub [0, 1, 2, 3, 4, 5, 6, 7, 8, 9, 10, 11, 12] rfl) (hK.sub [] rfl) (hD.sub [0, 1, 2, 3, 4, 5, 6, 7, 8, 9, 10, 11, 12] (by decide) rfl) hS dMD_border_44
          · have h_w := z_nle h_w
            refine lv_iconst (v := nI 0) hx hb dMD_border_27 (by decide) ?_
            subst hQ
            exact zw_zret (D := (dC, dI)) (cl := vwCl) (A := A) mm hx hb hr hlocks (Or.inl rfl) (Or.inl ⟨by omega, rfl, rfl⟩) (hP.sub [0, 1, 2, 3, 4, 5, 6, 7, 8, 9, 10, 11, 12] rfl) (hK.sub [] rfl) (hD.sub [0, 1, 2, 3, 4, 5, 6, 7, 8, 9, 10, 11, 12] (by decide) rfl) hS dMD_border_28

set_option maxHeartbeats 4000000 in
set_option maxRecDepth 100000 in
theorem f_MD_layout (l : Launch) (dC : Nat → ClassId) (dI : Nat → Nat → Nat) (h0 : Nat) (b0 : Nat) (b1 : Nat) (b2 : Nat) (b3 : Nat) (b4 : Nat) (b5 : Nat) (b6 : Nat) (b7 : Nat) (b8 : Nat) (b9 : Nat) (b10 : Nat) (b11 : Nat) (b12 : Nat) (b13 : Nat) (b14 : Nat) (b15 : Nat) (b16 : Nat) (b17 : Nat) (kb0 : ClassId) (kb1 : ClassId) (kb2 : ClassId) (kb3 : ClassId) (kb4 : ClassId) (kb5 : ClassId) (kb6 : ClassId) (kb7 : ClassId) (kb8 : ClassId) (kb9 : ClassId) (kb10 : ClassId) (kb11 : ClassId) (mg : Nat) (n : Nat) (rg : Nat) (rn : Nat) (ro : Nat) (sp : Nat) (gp : Nat) (fx : Nat) (mm : Nat → Nat → Nat) (a : Int32) (b : Int32) (f1 : Nat) (hm : ∀ a k, mm a k ≤ 1000) (hn : n ≤ 40) (hg : 1 ≤ mg ∧ mg ≤ 8 ∧ rg ≤ 8 ∧ rn ≤ 1000 ∧ ro ≤ 1000) (hG : ∀ k, k < n → mm 6 k < 8) (hE : ∀ k, k < n → mm 3 k ≤ zEn mm (mm 6 k) n) (hf : f1 ≤ 1) : zw_Mi (S := (Nat) × (Nat) × (Nat)) l yMD_layout wMD_layout ({ frames := 0, cells := 0, slots := 0, locals := 0 }) [.ref h0, .int a, .int b, .int (nI f1)] (dC, dI) vwCl [(h0, .inr (6, [.int (nI mg), .ref b0, .ref b1, .int (nI n), .ref b2, .ref b3, .ref b4, .ref b5, .ref b6, .ref b7, .ref b8, .ref b9, .ref b10, .ref b11, .int (nI rg - nI 1), .int (nI rn), .int (nI ro), .int (nI sp), .int (nI gp), .int (nI fx), .ref b12, .ref b13, .ref b14, .ref b15, .ref b16, .ref b17])), (b0, .inl (kb0, 8, .inl (fun j => nI (mm 0 j)))), (b1, .inl (kb1, 8, .inl (fun j => nI (mm 1 j)))), (b2, .inl (kb2, 40, .inl (fun j => nI (mm 2 j)))), (b3, .inl (kb3, 40, .inl (fun j => nI (mm 3 j)))), (b4, .inl (kb4, 40, .inl (fun j => nI (mm 4 j)))), (b5, .inl (kb5, 40, .inl (fun j => nI (mm 5 j)))), (b6, .inl (kb6, 40, .inl (fun j => nI (mm 6 j)))), (b7, .inl (kb7, 40, .inl (fun j => nI (mm 7 j)))), (b8, .inl (kb8, 40, .inl (fun j => nI (mm 8 j)))), (b9, .inl (kb9, 40, .inl (fun j => nI (mm 9 j)))), (b10, .inl (kb10, 40, .inl (fun j => nI (mm 10 j)))), (b11, .inl (kb11, 40, .inl (fun j => nI (mm 11 j))))] [(kb0, .int), (kb1, .int), (kb2, .int), (kb3, .int), (kb4, .int), (kb5, .int), (kb6, .int), (kb7, .int), (kb8, .int), (kb9, .int), (kb10, .int), (kb11, .int)] (fun _ _ => True) (fun r u => match u with | (sp2, gp2, fx2) => (¬ ((0 ≤ a.toInt ∧ a.toInt ≤ 10000) ∧ (0 ≤ b.toInt ∧ b.toInt ≤ 20)) ∧ r = 0 ∧ sp2 = sp ∧ gp2 = gp ∧ fx2 = fx) ∨ (sp2 ≤ 10000 ∧ gp2 ≤ 20 ∧ a = nI sp2 ∧ b = nI gp2 ∧ nI f1 = nI fx2 ∧ r = 1)) (fun u => match u with | (sp2, gp2, fx2) => [(h0, .inr (6, [.int (nI mg), .ref b0, .ref b1, .int (nI n), .ref b2, .ref b3, .ref b4, .ref b5, .ref b6, .ref b7, .ref b8, .ref b9, .ref b10, .ref b11, .int (nI rg - nI 1), .int (nI rn), .int (nI ro), .int (nI sp2), .int (nI gp2), .int (nI fx2), .ref b12, .ref b13, .ref b14, .ref b15, .ref b16, .ref b17])), (b0, .inl (kb0, 8, .inl (fun j => nI (mm 0 j)))), (b1, .inl (kb1, 8, .inl (fun j => nI (mm 1 j)))), (b2, .inl (kb2, 40, .inl (fun j => nI (mm 2 j)))), (b3, .inl (kb3, 40, .inl (fun j => nI (mm 3 j)))), (b4, .inl (kb4, 40, .inl (fun j => nI (mm 4 j)))), (b5, .inl (kb5, 40, .inl (fun j => nI (mm 5 j)))), (b6, .inl (kb6, 40, .inl (fun j => nI (mm 6 j)))), (b7, .inl (kb7, 40, .inl (fun j => nI (mm 7 j)))), (b8, .inl (kb8, 40, .inl (fun j => nI (mm 8 j)))), (b9, .inl (kb9, 40, .inl (fun j => nI (mm 9 j)))), (b10, .inl (kb10, 40, .inl (fun j => nI (mm 10 j)))), (b11, .inl (kb11, 40, .inl (fun j => nI (mm 11 j))))]) (fun u => match u with | (sp2, gp2, fx2) => []) 0 0 := by
  refine zw_headi (cc := cMD_layout) (maxL := 4) (ret := (some .boolean)) (by decide +kernel) rfl (Nat.le_of_ble_eq_true rfl) ?_
  intro p e s m below meth c ls A F hA hP hK hD hS hX hl
  obtain ⟨hx, hb, hml, hr, hlocks, hown, hts⟩ := F
  have hown : s.vm.findClass "SpannedCellsModel" = some m.cls := hown
  have hz : ∀ w9 ∈ zT, w9.before [.ref h0, .int a, .int b, .int (nI f1)].toArray s = true := fun w9 h => hts w9 (List.mem_cons_of_mem _ h)
  have hl : lv_has ls 4 [(0, .ref h0), (1, .int a), (2, .int b), (3, .int (nI f1))] := hl
  refine z_q (fun Q hQ => ?_)
  refine lv_iload_n hx hb dMD_layout_0 rfl (lv_at hl 1 rfl) ?_
  have t1 : (0 : Int32).toInt = 0 := by decide
  refine lv_if_lt (tgt := 21) hx hb dMD_layout_1 rfl (fun h2 => ?_) (fun h2 => ?_)
  · have h2 := z_lt h2
    refine lv_iconst (v := nI 0) hx hb dMD_layout_21 (by decide) ?_
    subst hQ
    exact zw_zret (D := (dC, dI)) (cl := vwCl) (A := A) (sp, gp, fx) hx hb hr hlocks (Or.inl rfl) (Or.inl ⟨by omega, rfl, rfl, rfl, rfl⟩) (hP.sub [0, 1, 2, 3, 4, 5, 6, 7, 8, 9, 10, 11, 12] rfl) (hK.sub [] rfl) (hD.sub [0, 1, 2, 3, 4, 5, 6, 7, 8, 9, 10, 11, 12] (by decide) rfl) hS dMD_layout_22
  · have h2 := z_nlt h2
    refine lv_iload_n hx hb dMD_layout_4 rfl (lv_at hl 1 rfl) ?_
    refine lv_sipush (v := nI 10000) hx hb dMD_layout_5 (by decide) ?_
    have t3 := nI_toInt (n := 10000) (by omega)
    refine lv_icmp_gt (tgt := 21) hx hb dMD_layout_8 rfl (fun h4 => ?_) (fun h4 => ?_)
    · have h4 := z_lt h4
      refine lv_iconst (v := nI 0) hx hb dMD_layout_21 (by decide) ?_
      subst hQ
      exact zw_zret (D := (dC, dI)) (cl := vwCl) (A := A) (sp, gp, fx) hx hb hr hlocks (Or.inl rfl) (Or.inl ⟨by omega, rfl, rfl, rfl, rfl⟩) (hP.sub [0, 1, 2, 3, 4, 5, 6, 7, 8, 9, 10, 11, 12] rfl) (hK.sub [] rfl) (hD.sub [0, 1, 2, 3, 4, 5, 6, 7, 8, 9, 10, 11, 12] (by decide) rfl) hS dMD_layout_22
    · have h4 := z_nlt h4
      refine lv_iload_n hx hb dMD_layout_11 rfl (lv_at hl 2 rfl) ?_
      have t5 : (0 : Int32).toInt = 0 := by decide
      refine lv_if_lt (tgt := 21) hx hb dMD_layout_12 rfl (fun h6 => ?_) (fun h6 => ?_)
      · have h6 := z_lt h6
        refine lv_iconst (v := nI 0) hx hb dMD_layout_21 (by decide) ?_
        subst hQ
        exact zw_zret (D := (dC, dI)) (cl := vwCl) (A := A) (sp, gp, fx) hx hb hr hlocks (Or.inl rfl) (Or.inl ⟨by omega, rfl, rfl, rfl, rfl⟩) (hP.sub [0, 1, 2, 3, 4, 5, 6, 7, 8, 9, 10, 11, 12] rfl) (hK.sub [] rfl) (hD.sub [0, 1, 2, 3, 4, 5, 6, 7, 8, 9, 10, 11, 12] (by decide) rfl) hS dMD_layout_22
      · have h6 := z_nlt h6
        refine lv_iload_n hx hb dMD_layout_15 rfl (lv_at hl 2 rfl) ?_
        refine lv_bipush (v := nI 20) hx hb dMD_layout_16 (by decide) ?_
        have t7 := nI_toInt (n := 20) (by omega)
        refine lv_icmp_le (tgt := 23) hx hb dMD_layout_18 rfl (fun h_w => ?_) (fun h_w => ?_)
        · have h_w := z_le h_w
          obtain ⟨a1, ha1, rfl⟩ := z_ofIn (c := a) (n := 10001) (by omega) (by omega) (by omega)
          obtain ⟨b_v, hb9, rfl⟩ := z_ofIn (c := b) (n := 21) (by omega) (by omega) (by omega)
          refine lv_aload_n hx hb dMD_layout_23 rfl (lv_at hl 0 rfl) ?_
          refine lv_iload_n hx hb dMD_layout_24 rfl (lv_at hl 1 rfl) ?_
          refine va_put (D := (dC, dI)) (ci := 6) (v := .int (nI a1)) (ty := .int) (C := RMD) (T := TMD) (N := 26) hx hb hz in_MD tyMD tokMD nokMD hown hK hP hD hS 0 rfl rfl 17 (by decide) (hz _ wd_601) (fun _ h9 => h9) rfl (by decide +kernel) rfl rfl (Nat.le_of_ble_eq_true rfl) dMD_layout_25 (fun H locs hP hD hS => ?_)
          have hP : va_P (dC, dI) vwCl [(h0, .inr (6, [.int (nI mg), .ref b0, .ref b1, .int (nI n), .ref b2, .ref b3, .ref b4, .ref b5, .ref b6, .ref b7, .ref b8, .ref b9, .ref b10, .ref b11, .int (nI rg - nI 1), .int (nI rn), .int (nI ro), .int (nI a1), .int (nI gp), .int (nI fx), .ref b12, .ref b13, .ref b14, .ref b15, .ref b16, .ref b17])), (b0, .inl (kb0, 8, .inl (fun j => nI (mm 0 j)))), (b1, .inl (kb1, 8, .inl (fun j => nI (mm 1 j)))), (b2, .inl (kb2, 40, .inl (fun j => nI (mm 2 j)))), (b3, .inl (kb3, 40, .inl (fun j => nI (mm 3 j)))), (b4, .inl (kb4, 40, .inl (fun j => nI (mm 4 j)))), (b5, .inl (kb5, 40, .inl (fun j => nI (mm 5 j)))), (b6, .inl (kb6, 40, .inl (fun j => nI (mm 6 j)))), (b7, .inl (kb7, 40, .inl (fun j => nI (mm 7 j)))), (b8, .inl (kb8, 40, .inl (fun j => nI (mm 8 j)))), (b9, .inl (kb9, 40, .inl (fun j => nI (mm 9 j)))), (b10, .inl (kb10, 40, .inl (fun j => nI (mm 10 j)))), (b11, .inl (kb11, 40, .inl (fun j => nI (mm 11 j))))] H := hP
          have hD : va_D A [(h0, .inr (6, [.int (nI mg), .ref b0, .ref b1, .int (nI n), .ref b2, .ref b3, .ref b4, .ref b5, .ref b6, .ref b7, .ref b8, .ref b9, .ref b10, .ref b11, .int (nI rg - nI 1), .int (nI rn), .int (nI ro), .int (nI a1), .int (nI gp), .int (nI fx), .ref b12, .ref b13, .ref b14, .ref b15, .ref b16, .ref b17])), (b0, .inl (kb0, 8, .inl (fun j => nI (mm 0 j)))), (b1, .inl (kb1, 8, .inl (fun j => nI (mm 1 j)))), (b2, .inl (kb2, 40, .inl (fun j => nI (mm 2 j)))), (b3, .inl (kb3, 40, .inl (fun j => nI (mm 3 j)))), (b4, .inl (kb4, 40, .inl (fun j => nI (mm 4 j)))), (b5, .inl (kb5, 40, .inl (fun j => nI (mm 5 j)))), (b6, .inl (kb6, 40, .inl (fun j => nI (mm 6 j)))), (b7, .inl (kb7, 40, .inl (fun j => nI (mm 7 j)))), (b8, .inl (kb8, 40, .inl (fun j => nI (mm 8 j)))), (b9, .inl (kb9, 40, .inl (fun j => nI (mm 9 j)))), (b10, .inl (kb10, 40, .inl (fun j => nI (mm 10 j)))), (b11, .inl (kb11, 40, .inl (fun j => nI (mm 11 j))))] := hD
          refine lv_aload_n hx hb dMD_layout_28 rfl (lv_at hl 0 rfl) ?_
          refine lv_iload_n hx hb dMD_layout_29 rfl (lv_at hl 2 rfl) ?_
          refine va_put (D := (dC, dI)) (ci := 6) (v := .int (nI b_v)) (ty := .int) (C := RMD) (T := TMD) (N := 26) hx hb hz in_MD tyMD tokMD nokMD hown hK hP hD hS 0 rfl rfl 18 (by decide) (hz _ wd_602) (fun _ h9 => h9) rfl (by decide +kernel) rfl rfl (Nat.le_of_ble_eq_true rfl) dMD_layout_30 (fun H locs hP hD hS => ?_)
          have hP : va_P (dC, dI) vwCl [(h0, .inr (6, [.int (nI mg), .ref b0, .ref b1, .int (nI n), .ref b2, .ref b3, .ref b4, .ref b5, .ref b6, .ref b7, .ref b8, .ref b9, .ref b10, .ref b11, .int (nI rg - nI 1), .int (nI rn), .int (nI ro), .int (nI a1), .int (nI b_v), .int (nI fx), .ref b12, .ref b13, .ref b14, .ref b15, .ref b16, .ref b17])), (b0, .inl (kb0, 8, .inl (fun j => nI (mm 0 j)))), (b1, .inl (kb1, 8, .inl (fun j => nI (mm 1 j)))), (b2, .inl (kb2, 40, .inl (fun j => nI (mm 2 j)))), (b3, .inl (kb3, 40, .inl (fun j => nI (mm 3 j)))), (b4, .inl (kb4, 40, .inl (fun j => nI (mm 4 j)))), (b5, .inl (kb5, 40, .inl (fun j => nI (mm 5 j)))), (b6, .inl (kb6, 40, .inl (fun j => nI (mm 6 j)))), (b7, .inl (kb7, 40, .inl (fun j => nI (mm 7 j)))), (b8, .inl (kb8, 40, .inl (fun j => nI (mm 8 j)))), (b9, .inl (kb9, 40, .inl (fun j => nI (mm 9 j)))), (b10, .inl (kb10, 40, .inl (fun j => nI (mm 10 j)))), (b11, .inl (kb11, 40, .inl (fun j => nI (mm 11 j))))] H := hP
          have hD : va_D A [(h0, .inr (6, [.int (nI mg), .ref b0, .ref b1, .int (nI n), .ref b2, .ref b3, .ref b4, .ref b5, .ref b6, .ref b7, .ref b8, .ref b9, .ref b10, .ref b11, .int (nI rg - nI 1), .int (nI rn), .int (nI ro), .int (nI a1), .int (nI b_v), .int (nI fx), .ref b12, .ref b13, .ref b14, .ref b15, .ref b16, .ref b17])), (b0, .inl (kb0, 8, .inl (fun j => nI (mm 0 j)))), (b1, .inl (kb1, 8, .inl (fun j => nI (mm 1 j)))), (b2, .inl (kb2, 40, .inl (fun j => nI (mm 2 j)))), (b3, .inl (kb3, 40, .inl (fun j => nI (mm 3 j)))), (b4, .inl (kb4, 40, .inl (fun j => nI (mm 4 j)))), (b5, .inl (kb5, 40, .inl (fun j => nI (mm 5 j)))), (b6, .inl (kb6, 40, .inl (fun j => nI (mm 6 j)))), (b7, .inl (kb7, 40, .inl (fun j => nI (mm 7 j)))), (b8, .inl (kb8, 40, .inl (fun j => nI (mm 8 j)))), (b9, .inl (kb9, 40, .inl (fun j => nI (mm 9 j)))), (b10, .inl (kb10, 40, .inl (fun j => nI (mm 10 j)))), (b11, .inl (kb11, 40, .inl (fun j => nI (mm 11 j))))] := hD
          refine lv_aload_n hx hb dMD_layout_33 rfl (lv_at hl 0 rfl) ?_
          refine lv_iload_n hx hb dMD_layout_34 rfl (lv_at hl 3 rfl) ?_
          refine va_put (D := (dC, dI)) (ci := 6) (v := .int (nI f1)) (ty := .boolean) (C := RMD) (T := TMD) (N := 26) hx hb hz in_MD tyMD tokMD nokMD hown hK hP hD hS 0 rfl rfl 19 (by decide) (hz _ wd_603) (fun _ h9 => h9) rfl (by decide +kernel) (by rcases z_f01 hf with h | h <;> (rw [h]; rfl)) (by rcases z_f01 hf with h | h <;> (rw [h]; rfl)) (Nat.le_of_ble_eq_true rfl) dMD_layout_35 (fun H locs hP hD hS => ?_)
          have hP : va_P (dC, dI) vwCl [(h0, .inr (6, [.int (nI mg), .ref b0, .ref b1, .int (nI n), .ref b2, .ref b3, .ref b4, .ref b5, .ref b6, .ref b7, .ref b8, .ref b9, .ref b10, .ref b11, .int (nI rg - nI 1), .int (nI rn), .int (nI ro), .int (nI a1), .int (nI b_v), .int (nI f1), .ref b12, .ref b13, .ref b14, .ref b15, .ref b16, .ref b17])), (b0, .inl (kb0, 8, .inl (fun j => nI (mm 0 j)))), (b1, .inl (kb1, 8, .inl (fun j => nI (mm 1 j)))), (b2, .inl (kb2, 40, .inl (fun j => nI (mm 2 j)))), (b3, .inl (kb3, 40, .inl (fun j => nI (mm 3 j)))), (b4, .inl (kb4, 40, .inl (fun j => nI (mm 4 j)))), (b5, .inl (kb5, 40, .inl (fun j => nI (mm 5 j)))), (b6, .inl (kb6, 40, .inl (fun j => nI (mm 6 j)))), (b7, .inl (kb7, 40, .inl (fun j => nI (mm 7 j)))), (b8, .inl (kb8, 40, .inl (fun j => nI (mm 8 j)))), (b9, .inl (kb9, 40, .inl (fun j => nI (mm 9 j)))), (b10, .inl (kb10, 40, .inl (fun j => nI (mm 10 j)))), (b11, .inl (kb11, 40, .inl (fun j => nI (mm 11 j))))] H := hP
          have hD : va_D A [(h0, .inr (6, [.int (nI mg), .ref b0, .ref b1, .int (nI n), .ref b2, .ref b3, .ref b4, .ref b5, .ref b6, .ref b7, .ref b8, .ref b9, .ref b10, .ref b11, .int (nI rg - nI 1), .int (nI rn), .int (nI ro), .int (nI a1), .int (nI b_v), .int (nI f1), .ref b12, .ref b13, .ref b14, .ref b15, .ref b16, .ref b17])), (b0, .inl (kb0, 8, .inl (fun j => nI (mm 0 j)))), (b1, .inl (kb1, 8, .inl (fun j => nI (mm 1 j)))), (b2, .inl (kb2, 40, .inl (fun j => nI (mm 2 j)))), (b3, .inl (kb3, 40, .inl (fun j => nI (mm 3 j)))), (b4, .inl (kb4, 40, .inl (fun j => nI (mm 4 j)))), (b5, .inl (kb5, 40, .inl (fun j => nI (mm 5 j)))), (b6, .inl (kb6, 40, .inl (fun j => nI (mm 6 j)))), (b7, .inl (kb7, 40, .inl (fun j => nI (mm 7 j)))), (b8, .inl (kb8, 40, .inl (fun j => nI (mm 8 j)))), (b9, .inl (kb9, 40, .inl (fun j => nI (mm 9 j)))), (b10, .inl (kb10, 40, .inl (fun j => nI (mm 10 j)))), (b11, .inl (kb11, 40, .inl (fun j => nI (mm 11 j))))] := hD
          refine lv_iconst (v := nI 1) hx hb dMD_layout_38 (by decide) ?_
          subst hQ
          exact zw_zret (D := (dC, dI)) (cl := vwCl) (A := A) (a1, b_v, f1) hx hb hr hlocks (Or.inr rfl) (Or.inr ⟨by omega, by omega, rfl, rfl, rfl, rfl⟩) (hP.sub [0, 1, 2, 3, 4, 5, 6, 7, 8, 9, 10, 11, 12] rfl) (hK.sub [] rfl) (hD.sub [0, 1, 2, 3, 4, 5, 6, 7, 8, 9, 10, 11, 12] (by decide) rfl) hS dMD_layout_39
        · have h_w := z_nle h_w
          refine lv_iconst (v := nI 0) hx hb dMD_layout_21 (by decide) ?_
          subst hQ
          exact zw_zret (D := (dC, dI)) (cl := vwCl) (A := A) (sp, gp, fx) hx hb hr hlocks (Or.inl rfl) (Or.inl ⟨by omega, rfl, rfl, rfl, rfl⟩) (hP.sub [0, 1, 2, 3, 4, 5, 6, 7, 8, 9, 10, 11, 12] rfl) (hK.sub [] rfl) (hD.sub [0, 1, 2, 3, 4, 5, 6, 7, 8, 9, 10, 11, 12] (by decide) rfl) hS dMD_layout_22
end
