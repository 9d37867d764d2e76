/-! ===== my own rows: a callee that takes no cells, where cells stand ===== -/
theorem z_ndiff (l : List Nat) : va_nd l = true ↔ l.Nodup := by
  induction l with
  | nil => simp [va_nd]
  | cons a l ih => simp only [va_nd, Bool.and_eq_true, decide_eq_true_eq, ih, List.nodup_cons]
theorem z_ndshift (L n : Nat) : va_nd (z_shift L n) = true := by
  rw [z_ndiff]
  unfold z_shift
  exact List.Pairwise.map _ (fun a b h => by omega) List.nodup_range
theorem z_ndapp : ∀ {l1 l2 : List Nat}, va_nd l1 = true → va_nd l2 = true → (∀ i ∈ l1, i ∉ l2) → va_nd (l1 ++ l2) = true := by
  intro l1
  induction l1 with
  | nil => intro l2 _ h _; exact h
  | cons a l ih =>
    intro l2 h1 h2 h3
    simp only [va_nd, Bool.and_eq_true, decide_eq_true_eq, List.cons_append] at h1 ⊢
    refine ⟨fun hm => ?_, ih h1.2 h2 (fun i hi => h3 i (List.mem_cons_of_mem _ hi))⟩
    rcases List.mem_append.mp hm with h | h
    · exact h1.1 h
    · exact h3 a List.mem_cons_self h
theorem z_pm3 {X T w : va_W} : ((X ++ T) ++ w).Perm ((X ++ w) ++ T) := by
  rw [List.append_assoc, List.append_assoc]
  exact List.Perm.append_left X List.perm_append_comm
theorem z_shiftN {X T : va_W} {is : List Nat} (h : ∀ i ∈ is, i < X.length) : ∀ i ∈ is, i ∉ z_shift X.length T.length := by
  intro i hi hm
  obtain ⟨k, -, hk⟩ := List.mem_map.mp hm
  have := h i hi
  omega
theorem z_disN {X T : va_W} {isC isR : List Nat} (hlt : ∀ i ∈ isC, i < X.length) (hdis : ∀ i ∈ isR, i ∉ isC) : ∀ i ∈ isR ++ z_shift X.length T.length, i ∉ isC := by
  intro i hi hc
  rcases List.mem_append.mp hi with h | h
  · exact hdis i h hc
  · obtain ⟨k, -, hk⟩ := List.mem_map.mp h
    have := hlt i hc
    omega
section ZNN
variable {p : Program} {l : Launch} {e : Env} {R : Room} {s : State} {m : MethodId} {args : Array Value} {below : List Frame} {meth : Method} {c : Code} {H : Heap} {locs : List Loc} {cells slots : Nat} {Q : State → Prop}
variable {pc : Nat} {ls : Array Slot} {rest st0 : List Value} {a : Array Value} {A : Nat → Prop} {H0 : Heap} {mc ms : Nat} {D : va_G} {cl : List vw_C} {tys tc : List (ClassId × FieldType)} {X T wc wr : va_W}
theorem zw_callNi {S : Type} {post : Int32 → S → Prop} {w1 : S → va_W} {t1 : S → List (ClassId × FieldType)} (hK : va_K D cl tys s) (hP : va_P D cl (X ++ T) H) (hD : va_D A (X ++ T)) (hS : va_S A H0 H locs) (hA : ∀ q, H0.size ≤ q → A q) (isC isR : List Nat) (hC : isC.map (fun i => X[i]?) = wc.map some) (hR : isR.map (fun i => X[i]?) = wr.map some) (hn : va_nd isR = true) (hdis : ∀ i ∈ isR, i ∉ isC)
    (hr : va_Run p l e R s m args below meth c H locs cells slots mc ms (F0 m pc ls st0) rest (va_Qi post (zw_B D cl (va_A wc H.size) w1 t1) (va_A wc H.size) a) (va_A wc H.size))
    (kk : ∀ (r : Int32) (u : S) (H1 : Heap) (locs1 : List Loc), post r u → va_P D cl ((wr ++ w1 u) ++ T) H1 → va_D A ((wr ++ w1 u) ++ T) → va_K D cl (tys ++ t1 u) s → va_S A H0 H1 locs1 → W p l e R s m args below meth c H1 locs1 (cells + mc) (slots + ms) Q (F0 m (pc + 3) ls (.int r :: rest))) : W p l e R s m args below meth c H locs cells slots Q (F0 m pc ls st0) :=
  zw_calli (wr := wr ++ T) hK hP hD hS hA isC (isR ++ z_shift X.length T.length) (z_shiftR hC).1 (z_shiftC hR) (z_ndapp hn (z_ndshift _ _) (z_shiftN (z_shiftR (T := T) hR).2)) (z_disN (z_shiftR (T := T) hC).2 hdis) hr (fun r u H1 locs1 h1 h2 h3 h4 h5 => kk r u H1 locs1 h1 (zP_perm z_pm3 h2) (zD_perm z_pm3 h3) h4 h5)
theorem zw_callNv {S : Type} {post : S → Prop} {w1 : S → va_W} {t1 : S → List (ClassId × FieldType)} (hK : va_K D cl tys s) (hP : va_P D cl (X ++ T) H) (hD : va_D A (X ++ T)) (hS : va_S A H0 H locs) (hA : ∀ q, H0.size ≤ q → A q) (isC isR : List Nat) (hC : isC.map (fun i => X[i]?) = wc.map some) (hR : isR.map (fun i => X[i]?) = wr.map some) (hn : va_nd isR = true) (hdis : ∀ i ∈ isR, i ∉ isC)
    (hr : va_Run p l e R s m args below meth c H locs cells slots mc ms (F0 m pc ls st0) rest (va_Qv post (zw_B D cl (va_A wc H.size) w1 t1) (va_A wc H.size) a) (va_A wc H.size))
    (kk : ∀ (u : S) (H1 : Heap) (locs1 : List Loc), post u → va_P D cl ((wr ++ w1 u) ++ T) H1 → va_D A ((wr ++ w1 u) ++ T) → va_K D cl (tys ++ t1 u) s → va_S A H0 H1 locs1 → W p l e R s m args below meth c H1 locs1 (cells + mc) (slots + ms) Q (F0 m (pc + 3) ls rest)) : W p l e R s m args below meth c H locs cells slots Q (F0 m pc ls st0) :=
  zw_callv (wr := wr ++ T) hK hP hD hS hA isC (isR ++ z_shift X.length T.length) (z_shiftR hC).1 (z_shiftC hR) (z_ndapp hn (z_ndshift _ _) (z_shiftN (z_shiftR (T := T) hR).2)) (z_disN (z_shiftR (T := T) hC).2 hdis) hr (fun u H1 locs1 h1 h2 h3 h4 h5 => kk u H1 locs1 h1 (zP_perm z_pm3 h2) (zD_perm z_pm3 h3) h4 h5)
end ZNN
theorem zP_drop {D : va_G} {cl : List vw_C} {X T : va_W} {H : Heap} {ad : Nat → Nat} {F : Nat → List Value} (h : va_P D cl (X ++ T) H) : va_P D cl (X ++ zcs 0 ad F) H := zt_of (fun q hq => zt_mem h (by
  rcases List.mem_append.mp hq with h1 | h1
  · exact List.mem_append_left _ h1
  · exact absurd h1 (by simp [zcs])))
theorem zD_drop {A : Nat → Prop} {X T : va_W} {ad : Nat → Nat} {F : Nat → List Value} (h : va_D A (X ++ T)) : va_D A (X ++ zcs 0 ad F) := by
  have e : X ++ zcs 0 ad F = X := by simp [zcs]
  rw [e]
  refine ⟨fun i j p q hp hq e => ?_, fun k q hk => ?_⟩
  · have up : ∀ (i : Nat) (q : Nat × va_E), X[i]? = some q → (X ++ T)[i]? = some q := fun i q hq => by
      rw [List.getElem?_append_left (List.getElem?_eq_some_iff.mp hq).1]; exact hq
    exact h.1 i j p q (up i p hp) (up j q hq) e
  · exact h.2 k q (by rw [List.getElem?_append_left (List.getElem?_eq_some_iff.mp hk).1]; exact hk)
