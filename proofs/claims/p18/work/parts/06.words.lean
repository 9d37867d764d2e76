theorem in_SC : ∀ w ∈ u_ws RSC TSC 6, w ∈ zT := by
  intro w hw
  obtain ⟨k, hk, rfl⟩ := List.mem_map.mp hw
  have hk := List.mem_range.mp hk
  match k, hk with
  | 0, _ => exact wd_156
  | 1, _ => exact wd_158
  | 2, _ => exact wd_160
  | 3, _ => exact wd_162
  | 4, _ => exact wd_164
  | 5, _ => exact wd_166
  | (j + 6), h => exact absurd h (by omega)
theorem in_GR : ∀ w ∈ u_ws RGR TGR 6, w ∈ zT := by
  intro w hw
  obtain ⟨k, hk, rfl⟩ := List.mem_map.mp hw
  have hk := List.mem_range.mp hk
  match k, hk with
  | 0, _ => exact wd_91
  | 1, _ => exact wd_93
  | 2, _ => exact wd_95
  | 3, _ => exact wd_97
  | 4, _ => exact wd_99
  | 5, _ => exact wd_101
  | (j + 6), h => exact absurd h (by omega)
theorem in_AL : ∀ w ∈ u_ws RAL TAL 3, w ∈ zT := by
  intro w hw
  obtain ⟨k, hk, rfl⟩ := List.mem_map.mp hw
  have hk := List.mem_range.mp hk
  match k, hk with
  | 0, _ => exact wd_78
  | 1, _ => exact wd_80
  | 2, _ => exact wd_82
  | (j + 3), h => exact absurd h (by omega)
theorem in_WI : ∀ w ∈ u_ws RWI TWI 4, w ∈ zT := by
  intro w hw
  obtain ⟨k, hk, rfl⟩ := List.mem_map.mp hw
  have hk := List.mem_range.mp hk
  match k, hk with
  | 0, _ => exact wd_128
  | 1, _ => exact wd_130
  | 2, _ => exact wd_132
  | 3, _ => exact wd_134
  | (j + 4), h => exact absurd h (by omega)
theorem in_LI : ∀ w ∈ u_ws RLI TLI 1, w ∈ zT := by
  intro w hw
  obtain ⟨k, hk, rfl⟩ := List.mem_map.mp hw
  have hk := List.mem_range.mp hk
  match k, hk with
  | 0, _ => exact wd_117
  | (j + 1), h => exact absurd h (by omega)
theorem in_HE : ∀ w ∈ u_ws RHE THE 1, w ∈ zT := by
  intro w hw
  obtain ⟨k, hk, rfl⟩ := List.mem_map.mp hw
  have hk := List.mem_range.mp hk
  match k, hk with
  | 0, _ => exact wd_147
  | (j + 1), h => exact absurd h (by omega)
theorem in_MD : ∀ w ∈ u_ws RMD TMD 26, w ∈ zT := by
  intro w hw
  obtain ⟨k, hk, rfl⟩ := List.mem_map.mp hw
  have hk := List.mem_range.mp hk
  match k, hk with
  | 0, _ => exact wd_610
  | 1, _ => exact wd_612
  | 2, _ => exact wd_614
  | 3, _ => exact wd_616
  | 4, _ => exact wd_618
  | 5, _ => exact wd_620
  | 6, _ => exact wd_622
  | 7, _ => exact wd_624
  | 8, _ => exact wd_626
  | 9, _ => exact wd_628
  | 10, _ => exact wd_630
  | 11, _ => exact wd_632
  | 12, _ => exact wd_634
  | 13, _ => exact wd_636
  | 14, _ => exact wd_638
  | 15, _ => exact wd_640
  | 16, _ => exact wd_642
  | 17, _ => exact wd_644
  | 18, _ => exact wd_646
  | 19, _ => exact wd_648
  | 20, _ => exact wd_650
  | 21, _ => exact wd_652
  | 22, _ => exact wd_654
  | 23, _ => exact wd_656
  | 24, _ => exact wd_658
  | 25, _ => exact wd_660
  | (j + 26), h => exact absurd h (by omega)
theorem in_CE : ∀ w ∈ u_ws RCE TCE 10, w ∈ zT := by
  intro w hw
  obtain ⟨k, hk, rfl⟩ := List.mem_map.mp hw
  have hk := List.mem_range.mp hk
  match k, hk with
  | 0, _ => exact wd_277
  | 1, _ => exact wd_279
  | 2, _ => exact wd_281
  | 3, _ => exact wd_283
  | 4, _ => exact wd_285
  | 5, _ => exact wd_287
  | 6, _ => exact wd_289
  | 7, _ => exact wd_291
  | 8, _ => exact wd_293
  | 9, _ => exact wd_295
  | (j + 10), h => exact absurd h (by omega)
theorem z_gV {own C : String} {idx maxL : Nat} {y : MethodName} {cc : ByteArray} {ret : Option FieldType} (h1 : Cond.methodLink own idx y ∈ zT) (h2 : Cond.instanceMethod y ∈ zT) (h3 : Cond.selects C y y ∈ zT) (h4 : Cond.initialized C ∈ zT) (h5 : Cond.code y cc maxL ret ∈ zT) : GoodIn zT (wsV own idx C y (.code y cc maxL ret :: zT)) := by
  have hg := zT_good (Ts := zT) (fun _ h => h)
  intro w hw
  unfold wsV at hw
  rcases List.mem_append.mp hw with h | h
  · simp only [List.mem_cons, List.not_mem_nil, or_false] at h
    rcases h with rfl | rfl | rfl | rfl
    · exact hg _ h1
    · exact hg _ h2
    · exact hg _ h3
    · exact hg _ h4
  · rcases List.mem_cons.mp h with rfl | h
    · exact hg _ h5
    · exact hg _ h
theorem z_gS {own : String} {idx maxL : Nat} {y : MethodName} {cc : ByteArray} {ret : Option FieldType} (h1 : Cond.methodLink own idx y ∈ zT) (h2 : Cond.static y ∈ zT) (h4 : Cond.initialized y.cls ∈ zT) (h5 : Cond.code y cc maxL ret ∈ zT) : GoodIn zT (va_wsS own idx y (.code y cc maxL ret :: zT)) := by
  have hg := zT_good (Ts := zT) (fun _ h => h)
  intro w hw
  unfold va_wsS at hw
  rcases List.mem_append.mp hw with h | h
  · simp only [List.mem_cons, List.not_mem_nil, or_false] at h
    rcases h with rfl | rfl | rfl
    · exact hg _ h1
    · exact hg _ h2
    · exact hg _ h4
  · rcases List.mem_cons.mp h with rfl | h
    · exact hg _ h5
    · exact hg _ h
theorem z_gI {maxL : Nat} {y : MethodName} {cc : ByteArray} {ret : Option FieldType} (h5 : Cond.code y cc maxL ret ∈ zT) : GoodIn zT (.code y cc maxL ret :: zT) := by
  have hg := zT_good (Ts := zT) (fun _ h => h)
  intro w hw
  rcases List.mem_cons.mp hw with rfl | h
  · exact hg _ h5
  · exact hg _ h
def zN (U : State) : Prop := ∀ q ∈ zNest, va_Nw (.methodLinkNest q.1 q.2.1 q.2.2.1 q.2.2.2) U
theorem zN_warm {s U : State} (hW : s.WarmedH U.vm) (h : zN s) : zN U := fun q hq => va_Nw.warmM hW (h q hq)
theorem zN_blind : z_blind zN := fun _ U _ _ h q hq => va_Nw.same (u := U) rfl rfl (h q hq)
def zX (t : Nat) (A : Nat → Prop) (U : State) : Prop := zN U ∧ va_Z "java/util/ArrayList" "DEFAULTCAPACITY_EMPTY_ELEMENTDATA" "[Ljava/lang/Object;" (.ref t) A U U.heap
theorem zX_blind {t : Nat} {A : Nat → Prop} : z_blind (zX t A) := fun a U g mk h => ⟨zN_blind a U g mk h.1, va_Z.moved (u := U) (U := U.calling g mk a) (Vm.Alike.refl U.vm) h.2⟩
theorem zX_call {t : Nat} {A : Nat → Prop} {s : State} {H : Heap} {locs : List Loc} {wc : va_W} (h : zX t A s) (hS : va_S A s.heap H locs) (hF : ∀ q, va_A wc H.size q → A q) : ∀ U : State, U.heap = H → s.WarmedH U.vm → zX t (va_A wc H.size) U := by
  intro U hU hW
  refine ⟨zN_warm hW h.1, ?_⟩
  have h2 := ((h.2.kept hS.2.1).moved hW.alike).narrow hF
  rw [hU]
  exact h2
theorem zN_call {s : State} {H : Heap} (h : zN s) : ∀ U : State, U.heap = H → s.WarmedH U.vm → zN U := fun _ _ hW => zN_warm hW h
theorem z_within_none {r v : Int32} (h : (r = 1 ∧ (0 ≤ v ∧ v ≤ (-1))) ∨ (r = 0 ∧ ¬ (0 ≤ v ∧ v ≤ (-1)))) : r = 0 := by
  rcases h with ⟨-, h1, h2⟩ | ⟨h, -⟩
  · exact absurd (Int32.le_trans h1 h2) (by decide)
  · exact h
theorem z_wT {r : Int32} {P : Prop} (h : (r = 1 ∧ P) ∨ (r = 0 ∧ ¬ P)) (h0 : ¬ r = 0) : P := by
  rcases h with ⟨-, h⟩ | ⟨h, -⟩
  · exact h
  · exact absurd h h0
theorem z_wF {r : Int32} {P : Prop} (h : (r = 1 ∧ P) ∨ (r = 0 ∧ ¬ P)) (h0 : r = 0) : ¬ P := by
  rcases h with ⟨h, -⟩ | ⟨-, h⟩
  · subst h0; exact absurd h (by decide)
  · exact h
theorem z_ltN {i n : Nat} {N : Int32} (h : i < n) (hn : n < 2 ^ 31) (e : N = nI n) : ¬ N ≤ nI i := by
  rw [e]
  exact nI_ge h hn
