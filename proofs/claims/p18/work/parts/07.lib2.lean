/-! ===== cells in any number, behind the cells that are named ===== -/
def zcs (n : Nat) (ad : Nat → Nat) (F : Nat → List Value) : va_W := (List.range n).map (fun k => (ad k, .inr (7, F k)))
theorem zcs_get {X : va_W} {L n k : Nat} {ad : Nat → Nat} {F : Nat → List Value} (hL : X.length = L) (h : k < n) : (X ++ zcs n ad F)[L + k]? = some (ad k, .inr (7, F k)) := by
  subst hL
  rw [List.getElem?_append_right (by omega), Nat.add_sub_cancel_left]
  simp [zcs, h]
theorem zt_mem {D : va_G} {cl : List vw_C} {ws : va_W} {H : Heap} (h : va_P D cl ws H) {q : Nat × va_E} (hq : q ∈ ws) : va_at D cl q H := by
  obtain ⟨i, hi⟩ := List.getElem?_of_mem hq
  exact h i q hi
theorem zt_of {D : va_G} {cl : List vw_C} {ws : va_W} {H : Heap} (h : ∀ q ∈ ws, va_at D cl q H) : va_P D cl ws H := fun k q hk => h q (List.mem_of_getElem? hk)
theorem zt_sub {D : va_G} {cl : List vw_C} {X T wc : va_W} {H : Heap} (h : va_P D cl (X ++ T) H) (is : List Nat) (hs : is.filterMap (fun i => X[i]?) = wc) : va_P D cl (wc ++ T) H := by
  refine zt_of (fun q hq => ?_)
  rcases List.mem_append.mp hq with h1 | h1
  · subst hs
    obtain ⟨i, -, hi⟩ := List.mem_filterMap.mp h1
    exact zt_mem h (List.mem_append_left _ (List.mem_of_getElem? hi))
  · exact zt_mem h (List.mem_append_right _ h1)
theorem zt_one {D : va_G} {cl : List vw_C} {ws : va_W} {H : Heap} {i : Nat} {q : Nat × va_E} (h : va_P D cl ws H) (hi : ws[i]? = some q) : va_P D cl [q] H := zt_of (fun z hz => by
  rw [List.mem_singleton] at hz
  subst hz
  exact h i _ hi)
theorem zt_two {D : va_G} {cl : List vw_C} {ws : va_W} {H : Heap} {i j : Nat} {q r : Nat × va_E} (h : va_P D cl ws H) (hi : ws[i]? = some q) (hj : ws[j]? = some r) : va_P D cl [q, r] H := (zt_one h hi).app (zt_one h hj)
section ZPRE
variable {s : State} {H : Heap} {D : va_G} {cl : List vw_C} {tys tc : List (ClassId × FieldType)} {wc : va_W} {av : List Value}
theorem zr_preS {X : State → Prop} (hK : va_K D cl tys s) (hP : va_P D cl wc H) (isT : List Nat) (hT : isT.filterMap (fun i => tys[i]?) = tc) (hXb : z_blind X) (hX : ∀ U : State, U.heap = H → s.WarmedH U.vm → X U) : PreS s H (va_Pc av (zp_pre D cl wc tc X)) av :=
  ⟨fun a U g mk q => by obtain ⟨q0, qP, qK, qX⟩ := q; exact ⟨q0, qP, va_K.moved (u := U) (U := U.calling g mk a) (Vm.Alike.refl U.vm) qK, hXb a U g mk qX⟩,
   fun U hU hW => ⟨rfl, by rw [hU]; exact hP, va_K.moved hW.alike (hK.sub isT hT), hX U hU hW⟩⟩
theorem zr_preV {X : State → Prop} {C : String} {b : Nat} {As : List Value} (hK : va_K D cl tys s) (hP : va_P D cl wc H) (hrecv : ∃ cell : Cell, H[b]? = some cell ∧ cell.vm.isStatics = false ∧ s.vm.findClass C = some cell.cls) (isT : List Nat) (hT : isT.filterMap (fun i => tys[i]?) = tc) (hXb : z_blind X) (hX : ∀ U : State, U.heap = H → s.WarmedH U.vm → X U) : PreV s H C b (va_Pc (.ref b :: As) (zp_pre D cl wc tc X)) As :=
  ⟨(zr_preS (av := .ref b :: As) hK hP isT hT hXb hX).1, hrecv, (zr_preS (av := .ref b :: As) hK hP isT hT hXb hX).2⟩
end ZPRE
/-- a reader that answers a cell -/
abbrev zp_Mr (l : Launch) (y : MethodName) (ws : List Cond) (rm : Room) (av : List Value) (D : va_G) (cl : List vw_C) (wc : va_W) (tc : List (ClassId × FieldType)) (X : State → Prop) (post : Nat → Prop) : Prop :=
  Met l y ws rm (va_Pc av (zp_pre D cl wc tc X)) (va_Sr post (fun a => .ref a)) 0 0 (fun _ => False)
section ZHEADR
variable {l : Launch} {y : MethodName} {ws ws' : List Cond} {rm : Room} {av : List Value} {D : va_G} {cl : List vw_C} {wc : va_W} {tc : List (ClassId × FieldType)} {cc : ByteArray} {maxL : Nat} {ret : Option FieldType}
theorem zp_headr {X : State → Prop} {post : Nat → Prop} (hy : plainName y.cls = true) (hw : ws = Cond.code y cc maxL ret :: ws') (hlen : (lg_sl av).length ≤ maxL)
    (body : ∀ (p : Program) (e : Env) (s : State) (m : MethodId) (below : List Frame) (meth : Method) (c : Code) (ls : Array Slot), z_Fix p m meth c cc maxL ret s av.toArray ws y.cls → va_P D cl wc s.heap → va_K D cl tc s → X s → lv_has ls maxL (lv_args 0 av) →
      W p l e rm s m av.toArray below meth c s.heap [] 0 0 (MQ below (va_Sr post (fun a => .ref a)) av.toArray s 0 0 (fun _ => False)) (F0 m 0 ls [])) : zp_Mr l y ws rm av D cl wc tc X post := by
  refine Met.ofW (cc := cc) (maxL := maxL) (ret := ret) hy hw ?_
  intro p e s m args below meth c s₁ B hml hv
  obtain ⟨rfl, hP, hK, hX⟩ := hv
  rw [lg_entry_eq]
  exact body p e s m below meth c _ ⟨B.exec, B.bytes, hml, B.returns, B.notSynchronized, findClass_of_methodNamed B.named, atoms_spec (ws := ws) B.pre⟩ hP hK hX (lv_entry av hlen)
end ZHEADR
section ZENDR
variable {p : Program} {l : Launch} {e : Env} {R : Room} {s : State} {m : MethodId} {args : Array Value} {below : List Frame} {meth : Method} {c : Code} {cc : ByteArray} {pc : Nat} {ls : Array Slot}
theorem zp_aret {post : Nat → Prop} {a : Nat} {rt : FieldType} (hx : p.tables.exec = Jvm.exec) (hb : c.code = cc) (hr : meth.sig.returnType = some rt) (hrt : (∃ n, rt = .object n) ∨ ∃ t, rt = .array t) (hlocks : meth.locks = false) (hq : post a) (hdg : decode cc pc = .ok (.areturn, 1)) :
    W p l e R s m args below meth c s.heap [] 0 0 (MQ below (va_Sr post (fun a => .ref a)) args s 0 0 (fun _ => False)) (F0 m pc ls [.ref a]) :=
  W.aret (free := fun _ => False) hx hb hr hrt (Or.inr ⟨a, rfl⟩) (fun t ht _ => ⟨a, rfl, hq, ht⟩) (fun q h => by cases h) hdg hlocks
end ZENDR
/-! ===== comparisons of ints as comparisons of integers ===== -/
theorem z_lt {a b : Int32} (h : a < b) : a.toInt < b.toInt := Int32.lt_iff_toInt_lt.mp h
theorem z_nlt {a b : Int32} (h : ¬ a < b) : b.toInt ≤ a.toInt := Int32.le_iff_toInt_le.mp (Int32.not_lt.mp h)
theorem z_le {a b : Int32} (h : a ≤ b) : a.toInt ≤ b.toInt := Int32.le_iff_toInt_le.mp h
theorem z_nle {a b : Int32} (h : ¬ a ≤ b) : b.toInt < a.toInt := Int32.lt_iff_toInt_lt.mp (Int32.not_le.mp h)
theorem z_eq {a b : Int32} (h : a = b) : a.toInt = b.toInt := by rw [h]
theorem z_ne {a b : Int32} (h : ¬ a = b) : a.toInt ≠ b.toInt := fun e => h (Int32.toInt_inj.mp e)
theorem z_lt' {a b : Int32} (h : a.toInt < b.toInt) : a < b := Int32.lt_iff_toInt_lt.mpr h
theorem z_le' {a b : Int32} (h : a.toInt ≤ b.toInt) : a ≤ b := Int32.le_iff_toInt_le.mpr h
theorem z_eq' {a b : Int32} (h : a.toInt = b.toInt) : a = b := Int32.toInt_inj.mp h
theorem z_m1 : ((-1) : Int32).toInt = -1 := by decide
/-- what a cell's fields hold -/
abbrev zcf (d : Nat → Nat → Nat) (k : Nat) : List Value := [.int (nI (d 0 k)), .int (nI (d 1 k)), .int (nI (d 2 k)), .int (nI (d 3 k)), .int (nI (d 4 k)), .int (nI (d 5 k)), .int (nI (d 6 k)), .int (nI (d 7 k)), .int (nI (d 8 k)), .int (nI (d 9 k))]
/-- an answer that says whether -/
def z_yn (r : Int32) (P : Prop) : Prop := (r = 1 ∧ P) ∨ (r = 0 ∧ ¬ P)
theorem z_yT {r : Int32} {P : Prop} (h : z_yn r P) (h0 : ¬ r = 0) : P := by
  rcases h with ⟨-, h⟩ | ⟨h, -⟩
  · exact h
  · exact absurd h h0
theorem z_yF {r : Int32} {P : Prop} (h : z_yn r P) (h0 : r = 0) : ¬ P := by
  rcases h with ⟨h, -⟩ | ⟨-, h⟩
  · subst h0; exact absurd h (by decide)
  · exact h
theorem z_y01 {r : Int32} {P : Prop} (h : z_yn r P) : r = 0 ∨ r = 1 := by
  rcases h with ⟨h, -⟩ | ⟨h, -⟩
  · exact Or.inr h
  · exact Or.inl h
theorem z_y1 {P : Prop} (h : P) : z_yn 1 P := Or.inl ⟨rfl, h⟩
theorem z_y0 {P : Prop} (h : ¬ P) : z_yn 0 P := Or.inr ⟨rfl, h⟩
/-! ===== writing ===== -/
theorem z_upd {f : Nat → Nat} {k v : Nat} (hk : k < 2147483648) : upd (fun j => nI (f j)) (nI k).toNatClampNeg (nI v) = fun j => nI (va_up f k v j) := by
  funext j
  rw [nI_clamp (by omega)]
  by_cases h : j = k
  · subst h; rw [va_up_self]; exact pk_us
  · rw [va_up_ne _ _ h]; exact pk_un h
def zup (d : Nat → Nat → Nat) (j k v : Nat) : Nat → Nat → Nat := fun a b => if a = j ∧ b = k then v else d a b
theorem zup_s {d : Nat → Nat → Nat} {j k v : Nat} : zup d j k v j k = v := if_pos ⟨rfl, rfl⟩
theorem zup_n {d : Nat → Nat → Nat} {j k v a b : Nat} (h : ¬ (a = j ∧ b = k)) : zup d j k v a b = d a b := if_neg h
theorem zt_subD {A : Nat → Prop} {X T wc : va_W} (h : va_D A (X ++ T)) (is : List Nat) (hn : va_nd is = true) (hs : is.map (fun i => X[i]?) = wc.map some) : va_D A (wc ++ T) := by
  have lt : ∀ i ∈ is, ∃ q, X[i]? = some q := by
    intro i hi
    have h1 : X[i]? ∈ wc.map some := by rw [← hs]; exact List.mem_map.mpr ⟨i, hi, rfl⟩
    obtain ⟨q, -, hq⟩ := List.mem_map.mp h1
    exact ⟨q, hq.symm⟩
  have at1 : ∀ (k : Nat) (q : Nat × va_E), wc[k]? = some q → ∃ i, is[k]? = some i ∧ X[i]? = some q := by
    intro k q hq
    have h1 : (is.map (fun i => X[i]?))[k]? = some (some q) := by rw [hs, List.getElem?_map, hq]; rfl
    rw [List.getElem?_map] at h1
    cases hi : is[k]? with
    | none => rw [hi] at h1; cases h1
    | some i => rw [hi] at h1; exact ⟨i, rfl, Option.some.inj h1⟩
  have up : ∀ (i : Nat) (q : Nat × va_E), X[i]? = some q → (X ++ T)[i]? = some q := fun i q hq => by
    rw [List.getElem?_append_left (List.getElem?_eq_some_iff.mp hq).1]; exact hq
  have upT : ∀ (i : Nat) (q : Nat × va_E), T[i]? = some q → (X ++ T)[X.length + i]? = some q := fun i q hq => by
    rw [List.getElem?_append_right (by omega), Nat.add_sub_cancel_left]; exact hq
  refine va_D.app ⟨fun i j p q hp hq e => ?_, fun k q hq => ?_⟩ ⟨fun i j p q hp hq e => ?_, fun k q hq => ?_⟩ (fun i j p q hp hq e => ?_)
  · obtain ⟨a, ha, hxa⟩ := at1 i p hp
    obtain ⟨b, hb, hxb⟩ := at1 j q hq
    have := h.1 a b p q (up a p hxa) (up b q hxb) e
    subst this
    exact va_nd_inj is hn i j a ha hb
  · obtain ⟨a, ha, hxa⟩ := at1 k q hq
    exact h.2 a q (up a q hxa)
  · have := h.1 (X.length + i) (X.length + j) p q (upT i p hp) (upT j q hq) e
    omega
  · exact h.2 (X.length + k) q (upT k q hq)
  · obtain ⟨a, ha, hxa⟩ := at1 i p hp
    have h1 := h.1 a (X.length + j) p q (up a p hxa) (upT j q hq) e
    have h2 := (List.getElem?_eq_some_iff.mp hxa).1
    omega
theorem zcs_set' {X : va_W} {L n k : Nat} {ad : Nat → Nat} {F : Nat → List Value} {v : List Value} (hL : X.length = L) (h : k < n) : (X ++ zcs n ad F).set (L + k) (ad k, .inr (7, v)) = X ++ zcs n ad (va_up F k v) := by
  subst hL
  apply List.ext_getElem?
  intro j
  by_cases hj : j = X.length + k
  · subst hj
    rw [List.getElem?_set_self (by simp [zcs]; omega), zcs_get rfl h, va_up_self]
  · rw [List.getElem?_set_ne (Ne.symm hj)]
    by_cases hx : j < X.length
    · rw [List.getElem?_append_left hx, List.getElem?_append_left hx]
    · rw [List.getElem?_append_right (by omega), List.getElem?_append_right (by omega)]
      simp only [zcs, List.getElem?_map]
      cases hb : (List.range n)[j - X.length]? with
      | none => rfl
      | some b =>
        have hb2 : b = j - X.length := by
          have := List.getElem?_eq_some_iff.mp hb
          obtain ⟨h1, h2⟩ := this
          rw [List.getElem_range] at h2
          exact h2.symm
        have : b ≠ k := by omega
        simp [va_up, this]
theorem zcs_set {A : Nat → Prop} {X : va_W} {L n k : Nat} {ad : Nat → Nat} {F : Nat → List Value} {v : List Value} (_ : va_D A ((X ++ zcs n ad F).set (L + k) (ad k, .inr (7, v)))) (hL : X.length = L) (h : k < n) : (X ++ zcs n ad F).set (L + k) (ad k, .inr (7, v)) = X ++ zcs n ad (va_up F k v) := zcs_set' hL h
theorem zcf_up {d : Nat → Nat → Nat} {k v : Nat} (j : Nat) (hj : j < 10) : va_up (zcf d) k ((zcf d k).set j (.int (nI v))) = zcf (zup d j k v) := by
  funext b
  by_cases h : b = k
  · subst h
    rw [va_up_self]
    match j, hj with
    | 0, _ => simp [zcf, zup]
    | 1, _ => simp [zcf, zup]
    | 2, _ => simp [zcf, zup]
    | 3, _ => simp [zcf, zup]
    | 4, _ => simp [zcf, zup]
    | 5, _ => simp [zcf, zup]
    | 6, _ => simp [zcf, zup]
    | 7, _ => simp [zcf, zup]
    | 8, _ => simp [zcf, zup]
    | 9, _ => simp [zcf, zup]
    | (j + 10), h => exact absurd h (by omega)
  · rw [va_up_ne _ _ h]
    simp [zcf, zup, h]
