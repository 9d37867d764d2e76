/-! ===== names: by my own program out of the words of the tables and the listing ===== -/
def TSC : u_T := fun k => match k with
  | 0 => ("SpannedCells", "grid", "LSpannedCells$Grid;", true)
  | 1 => ("SpannedCells", "widths", "LSpannedCells$Widths;", true)
  | 2 => ("SpannedCells", "heights", "LSpannedCells$Heights;", true)
  | 3 => ("SpannedCells", "space", "I", false)
  | 4 => ("SpannedCells", "gap", "I", false)
  | _ => ("SpannedCells", "fixed", "Z", false)
def tySC : Nat → FieldType := fun k => match k with
  | 0 => .object "SpannedCells$Grid"
  | 1 => .object "SpannedCells$Widths"
  | 2 => .object "SpannedCells$Heights"
  | 3 => .int
  | 4 => .int
  | _ => .boolean
theorem nokSC : ∀ a, a < 6 → ∀ b, b < 6 → a ≠ b → (TSC a).2.1 ≠ (TSC b).2.1 := by decide +kernel
theorem tokSC : ∀ k, k < 6 → parseFieldDescriptor (TSC k).2.2.1 = some (tySC k) := by decide +kernel
def TGR : u_T := fun k => match k with
  | 0 => ("SpannedCells$Grid", "cells", "Ljava/util/ArrayList;", true)
  | 1 => ("SpannedCells$Grid", "groups", "I", false)
  | 2 => ("SpannedCells$Grid", "groupStart", "I", false)
  | 3 => ("SpannedCells$Grid", "begunInGroup", "I", false)
  | 4 => ("SpannedCells$Grid", "rowsEnd", "I", false)
  | _ => ("SpannedCells$Grid", "columnsEnd", "I", false)
def tyGR : Nat → FieldType := fun k => match k with
  | 0 => .object "java/util/ArrayList"
  | 1 => .int
  | 2 => .int
  | 3 => .int
  | 4 => .int
  | _ => .int
theorem nokGR : ∀ a, a < 6 → ∀ b, b < 6 → a ≠ b → (TGR a).2.1 ≠ (TGR b).2.1 := by decide +kernel
theorem tokGR : ∀ k, k < 6 → parseFieldDescriptor (TGR k).2.2.1 = some (tyGR k) := by decide +kernel
def TAL : u_T := fun k => match k with
  | 0 => ("java/util/ArrayList", "elementData", "[Ljava/lang/Object;", false)
  | 1 => ("java/util/ArrayList", "size", "I", false)
  | _ => ("java/util/AbstractList", "modCount", "I", false)
def tyAL : Nat → FieldType := fun k => match k with
  | 0 => .array (.object "java/lang/Object")
  | 1 => .int
  | _ => .int
theorem nokAL : ∀ a, a < 3 → ∀ b, b < 3 → a ≠ b → (TAL a).2.1 ≠ (TAL b).2.1 := by decide +kernel
theorem tokAL : ∀ k, k < 3 → parseFieldDescriptor (TAL k).2.2.1 = some (tyAL k) := by decide +kernel
def TWI : u_T := fun k => match k with
  | 0 => ("SpannedCells$Widths", "least", "LSpannedCells$Lines;", true)
  | 1 => ("SpannedCells$Widths", "most", "LSpannedCells$Lines;", true)
  | 2 => ("SpannedCells$Widths", "chosen", "LSpannedCells$Lines;", true)
  | _ => ("SpannedCells$Widths", "weights", "LSpannedCells$Lines;", true)
def tyWI : Nat → FieldType := fun k => match k with
  | 0 => .object "SpannedCells$Lines"
  | 1 => .object "SpannedCells$Lines"
  | 2 => .object "SpannedCells$Lines"
  | _ => .object "SpannedCells$Lines"
theorem nokWI : ∀ a, a < 4 → ∀ b, b < 4 → a ≠ b → (TWI a).2.1 ≠ (TWI b).2.1 := by decide +kernel
theorem tokWI : ∀ k, k < 4 → parseFieldDescriptor (TWI k).2.2.1 = some (tyWI k) := by decide +kernel
def TLI : u_T := fun k => match k with
  | _ => ("SpannedCells$Lines", "sizes", "[I", true)
def tyLI : Nat → FieldType := fun k => match k with
  | _ => .array .int
theorem nokLI : ∀ a, a < 1 → ∀ b, b < 1 → a ≠ b → (TLI a).2.1 ≠ (TLI b).2.1 := by decide +kernel
theorem tokLI : ∀ k, k < 1 → parseFieldDescriptor (TLI k).2.2.1 = some (tyLI k) := by decide +kernel
def THE : u_T := fun k => match k with
  | _ => ("SpannedCells$Heights", "needed", "LSpannedCells$Lines;", true)
def tyHE : Nat → FieldType := fun k => match k with
  | _ => .object "SpannedCells$Lines"
theorem nokHE : ∀ a, a < 1 → ∀ b, b < 1 → a ≠ b → (THE a).2.1 ≠ (THE b).2.1 := by decide +kernel
theorem tokHE : ∀ k, k < 1 → parseFieldDescriptor (THE k).2.2.1 = some (tyHE k) := by decide +kernel
def TMD : u_T := fun k => match k with
  | 0 => ("SpannedCellsModel", "groups", "I", false)
  | 1 => ("SpannedCellsModel", "bases", "[I", true)
  | 2 => ("SpannedCellsModel", "begun", "[I", true)
  | 3 => ("SpannedCellsModel", "cells", "I", false)
  | 4 => ("SpannedCellsModel", "lefts", "[I", true)
  | 5 => ("SpannedCellsModel", "tops", "[I", true)
  | 6 => ("SpannedCellsModel", "across", "[I", true)
  | 7 => ("SpannedCellsModel", "wants", "[I", true)
  | 8 => ("SpannedCellsModel", "groupOf", "[I", true)
  | 9 => ("SpannedCellsModel", "leasts", "[I", true)
  | 10 => ("SpannedCellsModel", "mosts", "[I", true)
  | 11 => ("SpannedCellsModel", "needs", "[I", true)
  | 12 => ("SpannedCellsModel", "thick", "[I", true)
  | 13 => ("SpannedCellsModel", "ranks", "[I", true)
  | 14 => ("SpannedCellsModel", "rowGroup", "I", false)
  | 15 => ("SpannedCellsModel", "rowNumber", "I", false)
  | 16 => ("SpannedCellsModel", "rowEnd", "I", false)
  | 17 => ("SpannedCellsModel", "space", "I", false)
  | 18 => ("SpannedCellsModel", "gap", "I", false)
  | 19 => ("SpannedCellsModel", "fixed", "Z", false)
  | 20 => ("SpannedCellsModel", "least", "[I", true)
  | 21 => ("SpannedCellsModel", "most", "[I", true)
  | 22 => ("SpannedCellsModel", "width", "[I", true)
  | 23 => ("SpannedCellsModel", "height", "[I", true)
  | 24 => ("SpannedCellsModel", "given", "[Z", true)
  | _ => ("SpannedCellsModel", "weights", "[I", true)
def tyMD : Nat → FieldType := fun k => match k with
  | 0 => .int
  | 1 => .array .int
  | 2 => .array .int
  | 3 => .int
  | 4 => .array .int
  | 5 => .array .int
  | 6 => .array .int
  | 7 => .array .int
  | 8 => .array .int
  | 9 => .array .int
  | 10 => .array .int
  | 11 => .array .int
  | 12 => .array .int
  | 13 => .array .int
  | 14 => .int
  | 15 => .int
  | 16 => .int
  | 17 => .int
  | 18 => .int
  | 19 => .boolean
  | 20 => .array .int
  | 21 => .array .int
  | 22 => .array .int
  | 23 => .array .int
  | 24 => .array .boolean
  | _ => .array .int
theorem nokMD : ∀ a, a < 26 → ∀ b, b < 26 → a ≠ b → (TMD a).2.1 ≠ (TMD b).2.1 := by decide +kernel
theorem tokMD : ∀ k, k < 26 → parseFieldDescriptor (TMD k).2.2.1 = some (tyMD k) := by decide +kernel
def TCE : u_T := fun k => match k with
  | 0 => ("SpannedCells$Cell", "left", "I", true)
  | 1 => ("SpannedCells$Cell", "top", "I", true)
  | 2 => ("SpannedCells$Cell", "columns", "I", true)
  | 3 => ("SpannedCells$Cell", "least", "I", true)
  | 4 => ("SpannedCells$Cell", "most", "I", true)
  | 5 => ("SpannedCells$Cell", "need", "I", true)
  | 6 => ("SpannedCells$Cell", "growing", "Z", true)
  | 7 => ("SpannedCells$Cell", "rows", "I", false)
  | 8 => ("SpannedCells$Cell", "thickness", "I", false)
  | _ => ("SpannedCells$Cell", "rank", "I", false)
def tyCE : Nat → FieldType := fun k => match k with
  | 0 => .int
  | 1 => .int
  | 2 => .int
  | 3 => .int
  | 4 => .int
  | 5 => .int
  | 6 => .boolean
  | 7 => .int
  | 8 => .int
  | _ => .int
theorem nokCE : ∀ a, a < 10 → ∀ b, b < 10 → a ≠ b → (TCE a).2.1 ≠ (TCE b).2.1 := by decide +kernel
theorem tokCE : ∀ k, k < 10 → parseFieldDescriptor (TCE k).2.2.1 = some (tyCE k) := by decide +kernel
abbrev RSC : String := "SpannedCells"
abbrev RCE : String := "SpannedCells$Cell"
abbrev RGR : String := "SpannedCells$Grid"
abbrev RLI : String := "SpannedCells$Lines"
abbrev RWI : String := "SpannedCells$Widths"
abbrev RHE : String := "SpannedCells$Heights"
abbrev RMD : String := "SpannedCellsModel"
abbrev RLW : String := "SpannedCellsLaw"
abbrev RAL : String := "java/util/ArrayList"
abbrev RAB : String := "java/util/AbstractList"
abbrev RAC : String := "java/util/AbstractCollection"
abbrev ROB : String := "java/lang/Object"
abbrev RMA : String := "java/lang/Math"
abbrev RAR : String := "java/util/Arrays"
abbrev ROS : String := "java/util/Objects"
abbrev RPR : String := "jdk/internal/util/Preconditions"
abbrev RAS : String := "jdk/internal/util/ArraysSupport"
abbrev RSY : String := "java/lang/System"
abbrev vwCl : List vw_C := [(RSC, TSC, 6), (RGR, TGR, 6), (RAL, TAL, 3), (RWI, TWI, 4), (RLI, TLI, 1), (RHE, THE, 1), (RMD, TMD, 26), (RCE, TCE, 10)]
def zT : List Cond := lw_tbl.filter goodWord
theorem z_mem {w : Cond} (i : Nat) (h : lw_tbl[i]? = some w) (hg : goodWord w = true) : w ∈ zT := List.mem_filter.mpr ⟨List.mem_of_getElem? h, hg⟩
theorem zT_in : ∀ w ∈ zT, w ∈ lw_tbl := fun _ h => (List.mem_filter.mp h).1
theorem zT_good {Ts : List Cond} (h : ∀ w ∈ zT, w ∈ Ts) : GoodIn Ts zT := fun w hw => ⟨h w hw, good_of_word (List.mem_filter.mp hw).2⟩
abbrev cAL_size : ByteArray := prog_16_method_8_code
abbrev yAL_size : MethodName := ⟨"java/util/ArrayList", "size", "()I"⟩
abbrev wAL_size : List Cond := .code yAL_size cAL_size 1 (some .int) :: zT
abbrev cGR_cellCount : ByteArray := prog_3_method_8_code
abbrev yGR_cellCount : MethodName := ⟨"SpannedCells$Grid", "cellCount", "()I"⟩
abbrev wGR_cellCount : List Cond := .code yGR_cellCount cGR_cellCount 1 (some .int) :: zT
abbrev cGR_columnCount : ByteArray := prog_3_method_9_code
abbrev yGR_columnCount : MethodName := ⟨"SpannedCells$Grid", "columnCount", "()I"⟩
abbrev wGR_columnCount : List Cond := .code yGR_columnCount cGR_columnCount 1 (some .int) :: zT
abbrev cGR_hasCell : ByteArray := prog_3_method_11_code
abbrev yGR_hasCell : MethodName := ⟨"SpannedCells$Grid", "hasCell", "(I)Z"⟩
abbrev wGR_hasCell : List Cond := .code yGR_hasCell cGR_hasCell 2 (some .boolean) :: zT
abbrev cGR_rowCount : ByteArray := prog_3_method_10_code
abbrev yGR_rowCount : MethodName := ⟨"SpannedCells$Grid", "rowCount", "()I"⟩
abbrev wGR_rowCount : List Cond := .code yGR_rowCount cGR_rowCount 1 (some .int) :: zT
abbrev cSC_within : ByteArray := prog_1_method_22_code
abbrev ySC_within : MethodName := ⟨"SpannedCells", "within", "(III)Z"⟩
abbrev wSC_within : List Cond := .code ySC_within cSC_within 3 (some .boolean) :: zT
def zNest : List (String × Nat × MethodName × String) := [("SpannedCells", 9, ⟨"SpannedCells$Grid", "<init>", "()V"⟩, "SpannedCells"), ("SpannedCells", 18, ⟨"SpannedCells$Widths", "<init>", "()V"⟩, "SpannedCells"), ("SpannedCells$Widths", 11, ⟨"SpannedCells$Lines", "<init>", "()V"⟩, "SpannedCells"), ("SpannedCells", 25, ⟨"SpannedCells$Heights", "<init>", "()V"⟩, "SpannedCells"), ("SpannedCells$Heights", 11, ⟨"SpannedCells$Lines", "<init>", "()V"⟩, "SpannedCells"), ("SpannedCells$Grid", 77, ⟨"SpannedCells", "within", "(III)Z"⟩, "SpannedCells")]
