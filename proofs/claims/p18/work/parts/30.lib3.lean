/-! ===== calls of writers where cells stand in any number ===== -/
section ZW1
variable {p : Program} {l : Launch} {e : Env} {R : Room} {s : State} {m : MethodId} {args : Array Value} {below : List Frame} {meth : Method} {c : Code} {H : Heap} {locs : List Loc} {cells slots : Nat} {Q : State → Prop}
variable {pc : Nat} {ls : Array Slot} {rest st0 : List Value} {aa : Array Value} {A : Nat → Prop} {H0 : Heap} {mc ms : Nat} {D : va_G} {cl : List vw_C} {tys : List (ClassId × FieldType)} {ws : va_W}
/-- one cell of the world is cut out, and comes back changed -/
theorem z_join1 {A0 : Nat → Prop} {i a : Nat} {e0 e1 : va_E} {H1 : Heap} (hP : va_P D cl ws H) (hD : va_D A0 ws) (hi : ws[i]? = some (a, e0)) (hk : ∀ q : Nat, q < H.size → ¬ va_A [(a, e0)] H.size q → H1[q]? = H[q]?) (hP1 : va_P D cl [(a, e1)] H1) : va_P D cl (ws.set i (a, e1)) H1 ∧ va_D A0 (ws.set i (a, e1)) := by
  refine ⟨fun j q hq => ?_, hD.set hi⟩
  have hl := (List.getElem?_eq_some_iff.mp hi).1
  by_cases hj : j = i
  · subst hj
    rw [List.getElem?_set_self hl] at hq
    obtain rfl := Option.some.inj hq
    exact hP1 0 _ rfl
  · rw [List.getElem?_set_ne (Ne.symm hj)] at hq
    refine (hP j q hq).kept (hk q.1 (hP j q hq).lt ?_)
    rintro (⟨k, e2, h⟩ | h)
    · have h2 := List.mem_of_getElem? h
      rw [List.mem_singleton] at h2
      have h3 : q.1 = a := congrArg Prod.fst h2
      exact hj (hD.1 j i q (a, e0) hq hi h3)
    · have := (hP j q hq).lt
      omega
theorem z_pre1 {X : (Nat → Prop) → State → Prop} {i a ci : Nat} {fs : List Value} {qc : vw_C} {As : List Value} (hK : va_K D cl tys s) (hP : va_P D cl ws H) (hi : ws[i]? = some (a, .inr (ci, fs))) (hc : cl[ci]? = some qc) (hXb : z_blind (X (va_A [(a, .inr (ci, fs))] H.size))) (hX : ∀ U : State, U.heap = H → s.WarmedH U.vm → X (va_A [(a, .inr (ci, fs))] H.size) U) : PreV s H qc.1 a (va_Pc (.ref a :: As) (zw_pre D cl [(a, .inr (ci, fs))] [] X H.size)) As :=
  ⟨fun aa U g mk q => by obtain ⟨q0, q1, qP, qK, qD, qX⟩ := q; exact ⟨q0, q1, qP, va_K.moved (u := U) (U := U.calling g mk aa) (Vm.Alike.refl U.vm) qK, qD, hXb aa U g mk qX⟩,
   va_recv hK hP hc hi,
   fun U hU hW => ⟨rfl, by rw [hU], by rw [hU]; exact zt_one hP hi, va_K.moved hW.alike (hK.sub [] rfl), ⟨fun x y p q hp hq _ => by
     have h1 := (List.getElem?_eq_some_iff.mp hp).1
     have h2 := (List.getElem?_eq_some_iff.mp hq).1
     simp at h1 h2
     omega, fun _ _ _ => trivial⟩, hX U hU hW⟩⟩
theorem zw_call1v {S : Type} {post : S → Prop} {e1 : S → va_E} {i a : Nat} {e0 : va_E} (hK : va_K D cl tys s) (hP : va_P D cl ws H) (hD : va_D A ws) (hS : va_S A H0 H locs) (hA : ∀ q, H0.size ≤ q → A q) (hi : ws[i]? = some (a, e0))
    (hr : va_Run p l e R s m args below meth c H locs cells slots mc ms (F0 m pc ls st0) rest (va_Qv post (zw_B D cl (va_A [(a, e0)] H.size) (fun u => [(a, e1 u)]) (fun _ => [])) (va_A [(a, e0)] H.size) aa) (va_A [(a, e0)] H.size))
    (kk : ∀ (u : S) (H1 : Heap) (locs1 : List Loc), post u → va_P D cl (ws.set i (a, e1 u)) H1 → va_D A (ws.set i (a, e1 u)) → va_S A H0 H1 locs1 → W p l e R s m args below meth c H1 locs1 (cells + mc) (slots + ms) Q (F0 m (pc + 3) ls rest)) : W p l e R s m args below meth c H locs cells slots Q (F0 m pc ls st0) := by
  have hFc : ∀ q, va_A [(a, e0)] H.size q → A q := by
    rintro q (⟨k, e2, h⟩ | h)
    · have h2 := List.mem_of_getElem? h
      rw [List.mem_singleton] at h2
      have h3 : q = a := congrArg Prod.fst h2
      rw [h3]
      exact hD.2 i (a, e0) hi
    · exact hA q (Nat.le_trans hS.1 h)
  refine va_callv hr hS (fun q _ h => hFc q h) hFc (fun u t H1 locs1 ht hvm hw hB hz1 hk1 hS1 => ?_)
  obtain ⟨hP1, hK1, hD1⟩ := hB
  rw [ht] at hP1
  obtain ⟨hP2, hD2⟩ := z_join1 (e1 := e1 u) hP hD hi hk1 hP1
  exact kk u H1 locs1 hw hP2 hD2 hS1
/-- the places of a tail -/
def z_shift (L n : Nat) : List Nat := (List.range n).map (fun i => L + i)
theorem z_shiftC {X T wc : va_W} {isC : List Nat} (hC : isC.map (fun i => X[i]?) = wc.map some) : (isC ++ z_shift X.length T.length).map (fun i => (X ++ T)[i]?) = (wc ++ T).map some := by
  rw [List.map_append, List.map_append]
  congr 1
  · rw [← hC]
    apply List.map_congr_left
    intro i hi
    have h1 : X[i]? ∈ wc.map some := by rw [← hC]; exact List.mem_map.mpr ⟨i, hi, rfl⟩
    obtain ⟨q, -, hq⟩ := List.mem_map.mp h1
    exact List.getElem?_append_left (List.getElem?_eq_some_iff.mp hq.symm).1
  · unfold z_shift
    rw [List.map_map]
    apply List.ext_getElem?
    intro k
    rw [List.getElem?_map, List.getElem?_map]
    by_cases hk : k < T.length
    · rw [List.getElem?_range hk]
      show some ((X ++ T)[X.length + k]?) = _
      rw [List.getElem?_append_right (by omega), Nat.add_sub_cancel_left, List.getElem?_eq_getElem hk]
      rfl
    · rw [List.getElem?_eq_none (by simp; omega), List.getElem?_eq_none (by omega)]
      rfl
theorem z_shiftR {X T wr : va_W} {isR : List Nat} (hR : isR.map (fun i => X[i]?) = wr.map some) : isR.map (fun i => (X ++ T)[i]?) = wr.map some ∧ ∀ i ∈ isR, i < X.length := by
  have key : ∀ i ∈ isR, ∃ q, X[i]? = some q := by
    intro i hi
    have h1 : X[i]? ∈ wr.map some := by rw [← hR]; exact List.mem_map.mpr ⟨i, hi, rfl⟩
    obtain ⟨q, -, hq⟩ := List.mem_map.mp h1
    exact ⟨q, hq.symm⟩
  refine ⟨?_, fun i hi => ?_⟩
  · rw [← hR]
    apply List.map_congr_left
    intro i hi
    obtain ⟨q, hq⟩ := key i hi
    exact List.getElem?_append_left (List.getElem?_eq_some_iff.mp hq).1
  · obtain ⟨q, hq⟩ := key i hi
    exact (List.getElem?_eq_some_iff.mp hq).1
theorem zw_preVT {XX : (Nat → Prop) → State → Prop} {C : String} {b : Nat} {As : List Value} {X T wc : va_W} {tc : List (ClassId × FieldType)} (hK : va_K D cl tys s) (hP : va_P D cl (X ++ T) H) (hD : va_D A (X ++ T)) (hrecv : ∃ cell : Cell, H[b]? = some cell ∧ cell.vm.isStatics = false ∧ s.vm.findClass C = some cell.cls) (isC : List Nat) (hnC : va_nd isC = true) (hC : isC.map (fun i => X[i]?) = wc.map some) (isT : List Nat) (hT : isT.filterMap (fun i => tys[i]?) = tc) (hXb : z_blind (XX (va_A (wc ++ T) H.size))) (hX : ∀ U : State, U.heap = H → s.WarmedH U.vm → XX (va_A (wc ++ T) H.size) U) : PreV s H C b (va_Pc (.ref b :: As) (zw_pre D cl (wc ++ T) tc XX H.size)) As :=
  ⟨fun aa U g mk q => by obtain ⟨q0, q1, qP, qK, qD, qX⟩ := q; exact ⟨q0, q1, qP, va_K.moved (u := U) (U := U.calling g mk aa) (Vm.Alike.refl U.vm) qK, qD, hXb aa U g mk qX⟩,
   hrecv,
   fun U hU hW => ⟨rfl, by rw [hU], by rw [hU]; exact zt_sub hP isC (z_fm isC wc hC), va_K.moved hW.alike (hK.sub isT hT), (zt_subD hD isC hnC hC).weaken (fun _ _ _ _ => trivial), hX U hU hW⟩⟩
theorem z_disT {X T : va_W} {isC isR : List Nat} (hlt : ∀ i ∈ isR, i < X.length) (hdis : ∀ i ∈ isR, i ∉ isC) : ∀ i ∈ isR, i ∉ isC ++ z_shift X.length T.length := by
  intro i hi h
  rcases List.mem_append.mp h with h | h
  · exact hdis i hi h
  · obtain ⟨k, -, hk⟩ := List.mem_map.mp h
    have := hlt i hi
    omega
theorem zw_callTv {S : Type} {post : S → Prop} {w1 T1 : S → va_W} {t1 : S → List (ClassId × FieldType)} {X T wc wr : va_W} (hK : va_K D cl tys s) (hP : va_P D cl (X ++ T) H) (hD : va_D A (X ++ T)) (hS : va_S A H0 H locs) (hA : ∀ q, H0.size ≤ q → A q) (isC isR : List Nat) (hC : isC.map (fun i => X[i]?) = wc.map some) (hR : isR.map (fun i => X[i]?) = wr.map some) (hn : va_nd isR = true) (hdis : ∀ i ∈ isR, i ∉ isC)
    (hr : va_Run p l e R s m args below meth c H locs cells slots mc ms (F0 m pc ls st0) rest (va_Qv post (zw_B D cl (va_A (wc ++ T) H.size) (fun u => w1 u ++ T1 u) t1) (va_A (wc ++ T) H.size) aa) (va_A (wc ++ T) H.size))
    (kk : ∀ (u : S) (H1 : Heap) (locs1 : List Loc), post u → va_P D cl ((wr ++ w1 u) ++ T1 u) H1 → va_D A ((wr ++ w1 u) ++ T1 u) → va_K D cl (tys ++ t1 u) s → va_S A H0 H1 locs1 → W p l e R s m args below meth c H1 locs1 (cells + mc) (slots + ms) Q (F0 m (pc + 3) ls rest)) : W p l e R s m args below meth c H locs cells slots Q (F0 m pc ls st0) :=
  zw_callv (wr := wr) hK hP hD hS hA (isC ++ z_shift X.length T.length) isR (z_shiftC hC) (z_shiftR hR).1 hn (z_disT (z_shiftR (T := T) hR).2 hdis) hr (fun u H1 locs1 h1 h2 h3 h4 h5 => kk u H1 locs1 h1 (by rw [List.append_assoc]; exact h2) (by rw [List.append_assoc]; exact h3) h4 h5)
theorem zw_callTi {S : Type} {post : Int32 → S → Prop} {w1 T1 : S → va_W} {t1 : S → List (ClassId × FieldType)} {X T wc wr : va_W} (hK : va_K D cl tys s) (hP : va_P D cl (X ++ T) H) (hD : va_D A (X ++ T)) (hS : va_S A H0 H locs) (hA : ∀ q, H0.size ≤ q → A q) (isC isR : List Nat) (hC : isC.map (fun i => X[i]?) = wc.map some) (hR : isR.map (fun i => X[i]?) = wr.map some) (hn : va_nd isR = true) (hdis : ∀ i ∈ isR, i ∉ isC)
    (hr : va_Run p l e R s m args below meth c H locs cells slots mc ms (F0 m pc ls st0) rest (va_Qi post (zw_B D cl (va_A (wc ++ T) H.size) (fun u => w1 u ++ T1 u) t1) (va_A (wc ++ T) H.size) aa) (va_A (wc ++ T) H.size))
    (kk : ∀ (r : Int32) (u : S) (H1 : Heap) (locs1 : List Loc), post r u → va_P D cl ((wr ++ w1 u) ++ T1 u) H1 → va_D A ((wr ++ w1 u) ++ T1 u) → va_K D cl (tys ++ t1 u) s → va_S A H0 H1 locs1 → W p l e R s m args below meth c H1 locs1 (cells + mc) (slots + ms) Q (F0 m (pc + 3) ls (.int r :: rest))) : W p l e R s m args below meth c H locs cells slots Q (F0 m pc ls st0) :=
  zw_calli (wr := wr) hK hP hD hS hA (isC ++ z_shift X.length T.length) isR (z_shiftC hC) (z_shiftR hR).1 hn (z_disT (z_shiftR (T := T) hR).2 hdis) hr (fun r u H1 locs1 h1 h2 h3 h4 h5 => kk r u H1 locs1 h1 (by rw [List.append_assoc]; exact h2) (by rw [List.append_assoc]; exact h3) h4 h5)
end ZW1
def zGw (d : Nat → Nat → Nat) (i gs re : Nat) : Nat → Nat → Nat := fun j k => if j = 7 ∧ k < i ∧ ¬ d 6 k = 0 ∧ gs ≤ d 1 k then re - d 1 k else d j k
theorem zGw_n {d : Nat → Nat → Nat} {i gs re j k : Nat} (h : ¬ (j = 7 ∧ k < i ∧ ¬ d 6 k = 0 ∧ gs ≤ d 1 k)) : zGw d i gs re j k = d j k := if_neg h
theorem zGw_7 {d : Nat → Nat → Nat} {i gs re k : Nat} (h : k < i ∧ ¬ d 6 k = 0 ∧ gs ≤ d 1 k) : zGw d i gs re 7 k = re - d 1 k := if_pos ⟨rfl, h⟩
theorem zGw_0 {d : Nat → Nat → Nat} {gs re : Nat} : zGw d 0 gs re = d := by
  funext j k
  exact zGw_n (fun h => absurd h.2.1 (Nat.not_lt_zero _))
theorem zGw_keep {d : Nat → Nat → Nat} {i gs re : Nat} (h : ¬ (¬ d 6 i = 0 ∧ gs ≤ d 1 i)) : zGw d (i + 1) gs re = zGw d i gs re := by
  funext j k
  by_cases hc : j = 7 ∧ k < i ∧ ¬ d 6 k = 0 ∧ gs ≤ d 1 k
  · obtain ⟨rfl, h1, h2⟩ := hc
    rw [zGw_7 ⟨by omega, h2⟩, zGw_7 ⟨h1, h2⟩]
  · rw [zGw_n hc, zGw_n]
    rintro ⟨h1, h2, h3⟩
    by_cases e : k = i
    · subst e; exact h h3
    · exact hc ⟨h1, by omega, h3⟩
theorem zGw_set {d : Nat → Nat → Nat} {i gs re : Nat} (h : ¬ d 6 i = 0 ∧ gs ≤ d 1 i) : zup (zGw d i gs re) 7 i (re - d 1 i) = zGw d (i + 1) gs re := by
  funext j k
  by_cases hc : j = 7 ∧ k = i
  · obtain ⟨rfl, rfl⟩ := hc
    rw [zup_s, zGw_7 ⟨by omega, h⟩]
  · rw [zup_n hc]
    by_cases h2 : j = 7 ∧ k < i ∧ ¬ d 6 k = 0 ∧ gs ≤ d 1 k
    · obtain ⟨rfl, h3, h4⟩ := h2
      rw [zGw_7 ⟨h3, h4⟩, zGw_7 ⟨by omega, h4⟩]
    · rw [zGw_n h2, zGw_n]
      rintro ⟨h3, h4, h5⟩
      by_cases e : k = i
      · exact hc ⟨h3, e⟩
      · exact h2 ⟨h3, by omega, h5⟩
theorem z_max {a b : Nat} (ha : a < 2147483648) (hb : b < 2147483648) : (if nI a < nI b then nI b else nI a) = nI (if a < b then b else a) := by
  by_cases h : a < b
  · rw [if_pos h, if_pos ((nI_ltI (by omega) (by omega)).mpr h)]
  · rw [if_neg h, if_neg (fun q => h ((nI_ltI (by omega) (by omega)).mp q))]
theorem z_grow {d : Nat → Nat → Nat} {i gs re f : Nat} (hg : gs ≤ d 1 i) (h : f = if d 6 i = 0 then d 7 i else re - d 1 i) (h7 : zGw d i gs re 7 i = d 7 i) : zup (zGw d i gs re) 7 i f = zGw d (i + 1) gs re := by
  by_cases e : d 6 i = 0
  · rw [if_pos e] at h
    rw [zGw_keep (fun q => q.1 e)]
    funext a b
    by_cases hc : a = 7 ∧ b = i
    · obtain ⟨rfl, rfl⟩ := hc
      rw [zup_s, h, h7]
    · rw [zup_n hc]
  · rw [if_neg e] at h
    rw [h]
    exact zGw_set ⟨e, hg⟩
theorem zcf_up2 {d : Nat → Nat → Nat} {k v w : Nat} (j i : Nat) (hj : j < 10) (hi : i < 10) : va_up (zcf d) k (((zcf d k).set j (.int (nI v))).set i (.int (nI w))) = zcf (zup (zup d j k v) i k w) := by
  have h1 := zcf_up (d := d) (k := k) (v := v) j hj
  have h2 := zcf_up (d := zup d j k v) (k := k) (v := w) i hi
  rw [← h2, ← h1]
  funext b
  by_cases h : b = k
  · subst h; rw [va_up_self, va_up_self, va_up_self]
  · rw [va_up_ne _ _ h, va_up_ne _ _ h, va_up_ne _ _ h]
theorem zCa_blind : z_blind (fun U => va_Nw (.castable "SpannedCells$Cell" "java/lang/Object") U) := fun _ U _ _ h => va_Nw.same (u := U) rfl rfl h
theorem zCa_call {s : State} {H : Heap} (h : va_Nw (.castable "SpannedCells$Cell" "java/lang/Object") s) : ∀ U : State, U.heap = H → s.WarmedH U.vm → va_Nw (.castable "SpannedCells$Cell" "java/lang/Object") U := fun _ _ hW => va_Nw.warmC hW h
theorem z_subne {a b : Nat} (h : b < a) (ha : a < 1073741824) : ¬ nI a - nI b = 0 := by
  intro e
  have h1 := pk_sub_toInt (a := a) (b := b) (by omega) (by omega)
  rw [e] at h1
  have h2 : (0 : Int32).toInt = 0 := by decide
  omega
theorem z_lne {x : Int32} (h : ¬ x = 0) : ¬ x.toInt64 = 0 := by
  intro e
  apply h
  have h1 : x.toInt64.toInt = (0 : Int64).toInt := by rw [e]
  rw [Int32.toInt_toInt64] at h1
  exact z_eq' (h1.trans (by decide))
