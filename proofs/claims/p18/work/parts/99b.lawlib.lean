theorem z_nestOf {s : State} {b : Nat} (hts : ∀ w ∈ lw_tbl, w.before #[Value.ref b] s = true) : zN s := by
  intro q hq
  simp only [zNest, List.mem_cons, List.not_mem_nil, or_false] at hq
  rcases hq with rfl | rfl | rfl | rfl | rfl | rfl
  · exact va_Nw.of rfl (hts _ (List.mem_of_getElem? (i := 55) (by decide +kernel)))
  · exact va_Nw.of rfl (hts _ (List.mem_of_getElem? (i := 106) (by decide +kernel)))
  · exact va_Nw.of rfl (hts _ (List.mem_of_getElem? (i := 112) (by decide +kernel)))
  · exact va_Nw.of rfl (hts _ (List.mem_of_getElem? (i := 139) (by decide +kernel)))
  · exact va_Nw.of rfl (hts _ (List.mem_of_getElem? (i := 144) (by decide +kernel)))
  · exact va_Nw.of rfl (hts _ (List.mem_of_getElem? (i := 567) (by decide +kernel)))
theorem z_known {s : State} {cl : List vw_C} (h : ∀ (c : Nat) (q : vw_C), cl[c]? = some q → ∃ (cC : ClassId) (iS : Nat → Nat), u_Kn s q.1 q.2.1 q.2.2 cC iS) : ∃ (dC : Nat → ClassId) (dI : Nat → Nat → Nat), va_K (dC, dI) cl [] s := by
  have h2 : ∀ c : Nat, ∃ x : ClassId × (Nat → Nat), ∀ q : vw_C, cl[c]? = some q → u_Kn s q.1 q.2.1 q.2.2 x.1 x.2 := by
    intro c
    cases hq : cl[c]? with
    | none => exact ⟨((0 : Nat), fun _ => 0), fun q h => by cases h⟩
    | some q =>
      obtain ⟨cC, iS, hh⟩ := h c q hq
      exact ⟨(cC, iS), fun q' h' => by cases h'; exact hh⟩
  obtain ⟨f, hf⟩ := Classical.axiomOfChoice h2
  exact ⟨fun c => (f c).1, fun c => (f c).2, fun c q hq => hf c q hq, fun k q hk => by simp at hk⟩
theorem z_knownOf {s : State} {b : Nat} (hts : ∀ w ∈ lw_tbl, w.before #[Value.ref b] s = true) : ∃ (dC : Nat → ClassId) (dI : Nat → Nat → Nat), va_K (dC, dI) vwCl [] s := by
  have hz : ∀ w ∈ zT, w.before #[Value.ref b] s = true := fun w h => hts w (zT_in w h)
  refine z_known (fun c q h => ?_)
  match c, h with
  | 0, h =>
    have h : some (RSC, TSC, 6) = some q := h
    cases h
    exact u_known hz in_SC (hz _ wd_46)
  | 1, h =>
    have h : some (RGR, TGR, 6) = some q := h
    cases h
    exact u_known hz in_GR (hz _ wd_54)
  | 2, h =>
    have h : some (RAL, TAL, 3) = some q := h
    cases h
    exact u_known hz in_AL (hz _ wd_60)
  | 3, h =>
    have h : some (RWI, TWI, 4) = some q := h
    cases h
    exact u_known hz in_WI (hz _ wd_105)
  | 4, h =>
    have h : some (RLI, TLI, 1) = some q := h
    cases h
    exact u_known hz in_LI (hz _ wd_111)
  | 5, h =>
    have h : some (RHE, THE, 1) = some q := h
    cases h
    exact u_known hz in_HE (hz _ wd_138)
  | 6, h =>
    have h : some (RMD, TMD, 26) = some q := h
    cases h
    exact u_known hz in_MD (hz _ wd_579)
  | 7, h =>
    have h : some (RCE, TCE, 10) = some q := h
    cases h
    exact u_known hz in_CE (hz _ wd_246)
  | (c + 8), h => exact absurd h (by simp)
theorem z_emptyOf {s : State} {b : Nat} (hts : ∀ w ∈ lw_tbl, w.before #[Value.ref b] s = true) (hgv : (Jvm.Cond.and given_1 narrow_1).before #[Value.ref b] s = true) {A : Nat → Prop} (hA : ∀ a : Nat, a < s.heap.size → ¬ A a) : ∃ (t : Nat) (ty : FieldType), zE0 t ty A s := by
  have hs := flat_of_before _ hgv
  have h1 : (Cond.eq (.length (.static "java/util/ArrayList" "DEFAULTCAPACITY_EMPTY_ELEMENTDATA" "[Ljava/lang/Object;")) (.int 0)).before #[Value.ref b] s = true := hs _ (by decide +kernel)
  obtain ⟨t, cell, ht, hat, hv⟩ := Term.length_spec (va_eqt h1)
  obtain ⟨hcell, hkn, hst, k, comp, ty, hk, hkind⟩ := State.arrayAt?_spec hat
  refine ⟨t, ty, va_Zref (hts _ (List.mem_of_getElem? (i := 72) (by decide +kernel))) (hts _ (List.mem_of_getElem? (i := 33) (by decide +kernel))) ht hA, cell, hcell, ⟨fun k9 e9 => ?_, k, hk, comp, hkind⟩, hkn, Nat.zero_le _, (Value.int.inj hv).symm, fun j hj => absurd hj (Nat.not_lt_zero _), hA t (Array.getElem?_eq_some_iff.mp hcell).1⟩
  rw [e9] at hst
  cases hst
theorem z_growOf {s : State} {b : Nat} (hts : ∀ w ∈ lw_tbl, w.before #[Value.ref b] s = true) (hgv : (Jvm.Cond.and given_1 narrow_1).before #[Value.ref b] s = true) : ∃ mi : Nat, zG0 mi s := by
  have hs := flat_of_before _ hgv
  have h1 : (Cond.isRef (.mirror "[Ljava/lang/Object;")).before #[Value.ref b] s = true := hs _ (by decide +kernel)
  obtain ⟨mi, hmi⟩ := va_Mi.of h1
  exact ⟨mi, z_nestOf hts, va_Nw.of rfl (hts _ (List.mem_of_getElem? (i := 812) (by decide +kernel))), va_AO.of (hts _ (List.mem_of_getElem? (i := 341) (by decide +kernel))), hmi, va_Dc.of (hts _ (List.mem_of_getElem? (i := 805) (by decide +kernel)))⟩
