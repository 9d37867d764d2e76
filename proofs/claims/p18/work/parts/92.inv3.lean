/-! ===== the tie holds on: a border, a cell ===== -/
section ZIK
variable {n : Nat} {d : Nat → Nat → Nat} {gr gs bg re ce : Nat} {mm : Nat → Nat → Nat} {rg rn ro : Nat}
theorem zI_border (h : zI n d gr gs bg re ce mm rg rn ro) {k t w : Nat} (ht : t ≤ 9) (hw : w ≤ 4) : zI n (zup (zup d 8 k t) 9 k w) gr gs bg re ce (zmBo mm k t w) rg rn ro := by
  obtain ⟨⟨h1, h2, h3⟩, ⟨e1, e2, e3, e4⟩, ⟨l1, l2, l3⟩, hm, hc, hg, ⟨r1, r2, r3, r4, r5, r6⟩⟩ := h
  have dn : ∀ j i, j ≠ 8 → j ≠ 9 → zup (zup d 8 k t) 9 k w j i = d j i := fun j i p q => by rw [zup_n (fun z => q z.1), zup_n (fun z => p z.1)]
  have d8 : ∀ i, zup (zup d 8 k t) 9 k w 8 i = if i = k then t else d 8 i := by
    intro i
    rw [zup_n (fun z => absurd z.1 (by decide))]
    by_cases p : i = k
    · subst p; rw [zup_s, if_pos rfl]
    · rw [zup_n (fun z => p z.2), if_neg p]
  have d9 : ∀ i, zup (zup d 8 k t) 9 k w 9 i = if i = k then w else d 9 i := by
    intro i
    by_cases p : i = k
    · subst p; rw [zup_s, if_pos rfl]
    · rw [zup_n (fun z => p z.2), zup_n (fun z => p z.2), if_neg p]
  have m10 : ∀ i, zmBo mm k t w 10 i = if i = k then t else mm 10 i := by
    intro i
    show va_up (mm 10) k t i = _
    by_cases p : i = k
    · subst p; rw [va_up_self, if_pos rfl]
    · rw [va_up_ne _ _ p, if_neg p]
  have m11 : ∀ i, zmBo mm k t w 11 i = if i = k then w else mm 11 i := by
    intro i
    show va_up (mm 11) k w i = _
    by_cases p : i = k
    · subst p; rw [va_up_self, if_pos rfl]
    · rw [va_up_ne _ _ p, if_neg p]
  have hE : ∀ g, zEn (zmBo mm k t w) g n = zEn mm g n := fun g => zEn_congr (m := mm) (m' := zmBo mm k t w) rfl n (fun k _ => ⟨rfl, rfl, rfl⟩)
  have hC : zCo (zmBo mm k t w) n = zCo mm n := zCo_congr (m := mm) (m' := zmBo mm k t w) n (fun k _ => ⟨rfl, rfl⟩)
  refine ⟨⟨h1, h2, h3⟩, ⟨e1, e2, by rw [hE]; exact e3, by rw [hC]; exact e4⟩, ⟨l1, l2, l3⟩, fun a i => ?_, fun i hi => ?_, fun g p => by rw [hE]; exact hg g p, ⟨r1, r2, r3, r4, r5, fun q x hx => ?_⟩⟩
  · match a with
    | 0 => exact hm 0 i
    | 1 => exact hm 1 i
    | 2 => exact hm 2 i
    | 3 => exact hm 3 i
    | 4 => exact hm 4 i
    | 5 => exact hm 5 i
    | 6 => exact hm 6 i
    | 7 => exact hm 7 i
    | 8 => exact hm 8 i
    | 9 => exact hm 9 i
    | 10 => rw [m10]; have := hm 10 i; split <;> omega
    | 11 => rw [m11]; have := hm 11 i; split <;> omega
    | (a + 12) => exact hm (a + 12) i
  · obtain ⟨⟨q0, q1, q2, q3, q4, q5, q8, q9⟩, q6, q7, qx, c1, c2, c3, c4, c5⟩ := hc i hi
    refine ⟨⟨?_, ?_, ?_, ?_, ?_, ?_, ?_, ?_⟩, ?_, ?_, ?_, c1, c2, c3, c4, c5⟩
    · rw [dn 0 i (by decide) (by decide)]; exact q0
    · rw [dn 1 i (by decide) (by decide)]; exact q1
    · rw [dn 2 i (by decide) (by decide)]; exact q2
    · rw [dn 3 i (by decide) (by decide)]; exact q3
    · rw [dn 4 i (by decide) (by decide)]; exact q4
    · rw [dn 5 i (by decide) (by decide)]; exact q5
    · rw [d8, m10, q8]
    · rw [d9, m11, q9]
    · rw [dn 6 i (by decide) (by decide)]; exact q6
    · rw [dn 7 i (by decide) (by decide), q7]; exact (zDn_congr (m := mm) (m' := zmBo mm k t w) rfl rfl (hE (mm 6 i))).symm
    · intro j hj; rw [dn j i (by omega) (by omega)]; exact qx j hj
  · obtain ⟨i, hi, z1, z2⟩ := r6 q x hx
    refine ⟨i, hi, ?_, ?_⟩
    · rw [dn 0 i (by decide) (by decide), dn 2 i (by decide) (by decide)]; exact z1
    · rw [dn 1 i (by decide) (by decide), dn 7 i (by decide) (by decide)]; exact z2
theorem zmPt_n {m : Nat → Nat → Nat} {n x rn a b g c d e : Nat} {i k : Nat} (h : k ≠ n) : zmPt m n x rn a b g c d e i k = m i k := by
  match i with
  | 0 => rfl
  | 1 => rfl
  | 2 => exact va_up_ne _ _ h
  | 3 => exact va_up_ne _ _ h
  | 4 => exact va_up_ne _ _ h
  | 5 => exact va_up_ne _ _ h
  | 6 => exact va_up_ne _ _ h
  | 7 => exact va_up_ne _ _ h
  | 8 => exact va_up_ne _ _ h
  | 9 => exact va_up_ne _ _ h
  | 10 => exact va_up_ne _ _ h
  | 11 => exact va_up_ne _ _ h
  | (i + 12) => rfl
theorem zI_put (h : zI n d gr gs bg re ce mm rg rn ro) (hrg : rg = gr) (hn : n < 40) {x a b c1 d1 e1 r2 c2 : Nat} (hab : 1 ≤ a ∧ a ≤ 6 ∧ b ≤ 6 ∧ c1 ≤ 1000 ∧ d1 ≤ 1000 ∧ e1 ≤ 1000) (hx : x + a ≤ 12) (hy : rn + b ≤ 12) (hfr : ∀ j, j < x → zOwd n d j rn) (hr2 : r2 = (if re < rn + b then rn + b else re)) (hc2 : c2 = (if ce < x + a then x + a else ce)) :
    zI (n + 1) (zGw (zpu d n (zrec x rn a c1 d1 e1 (if b = 0 then 1 else 0) b 0 0)) (n + 1) gs r2) gr gs bg r2 c2 (zmPt mm n x rn a b (gr - 1) c1 d1 e1) rg rn (x + a) := by
  have hz := h
  obtain ⟨⟨h1, h2, h3⟩, ⟨e1', e2, e3, e4⟩, ⟨l1, l2, l3⟩, hm, hc, hg, ⟨r1, r2', r3, r4, r5, r6⟩⟩ := h
  have hb := r2'.mp hrg
  have hrn := r3 hrg
  generalize hM : zmPt mm n x rn a b (gr - 1) c1 d1 e1 = M
  have M0 : ∀ g, M 0 g = mm 0 g := fun g => by rw [← hM]; rfl
  have M1 : ∀ g, M 1 g = mm 1 g := fun g => by rw [← hM]; rfl
  have Mn : ∀ i k, k ≠ n → M i k = mm i k := fun i k p => by rw [← hM]; exact zmPt_n p
  have M2 : M 2 n = x := by rw [← hM]; exact va_up_self _ _ _
  have M3 : M 3 n = rn := by rw [← hM]; exact va_up_self _ _ _
  have M4 : M 4 n = a := by rw [← hM]; exact va_up_self _ _ _
  have M5 : M 5 n = b := by rw [← hM]; exact va_up_self _ _ _
  have M6 : M 6 n = gr - 1 := by rw [← hM]; exact va_up_self _ _ _
  have M7 : M 7 n = c1 := by rw [← hM]; exact va_up_self _ _ _
  have M8 : M 8 n = d1 := by rw [← hM]; exact va_up_self _ _ _
  have M9 : M 9 n = e1 := by rw [← hM]; exact va_up_self _ _ _
  have M10 : M 10 n = 0 := by rw [← hM]; exact va_up_self _ _ _
  have M11 : M 11 n = 0 := by rw [← hM]; exact va_up_self _ _ _
  have Mle : ∀ i k, M i k ≤ 1000 := by
    intro i k
    by_cases p : k = n
    · subst p
      match i with
      | 0 => rw [M0]; exact hm _ _
      | 1 => rw [M1]; exact hm _ _
      | 2 => rw [M2]; omega
      | 3 => rw [M3]; omega
      | 4 => rw [M4]; omega
      | 5 => rw [M5]; omega
      | 6 => rw [M6]; omega
      | 7 => rw [M7]; omega
      | 8 => rw [M8]; omega
      | 9 => rw [M9]; omega
      | 10 => rw [M10]; omega
      | 11 => rw [M11]; omega
      | (i + 12) => rw [← hM]; exact hm (i + 12) k
    · rw [Mn i k p]; exact hm _ _
  have hr3 : re ≤ r2 ∧ rn + b ≤ r2 ∧ r2 ≤ 12 := by rw [hr2]; split <;> omega
  have hc3 : ce ≤ c2 ∧ x + a ≤ c2 ∧ c2 ≤ 12 := by rw [hc2]; split <;> omega
  have hEn : ∀ g, zEn M g n = zEn mm g n := fun g => zEn_congr (m := mm) (m' := M) (by rw [M0, M1]) n (fun k hk => ⟨Mn 3 k (by omega), Mn 5 k (by omega), Mn 6 k (by omega)⟩)
  have hE : ∀ g, g ≠ gr - 1 → zEn M g (n + 1) = zEn mm g n := fun g p => by
    rw [zEn_0 (fun q => p (by rw [← q.1]; exact M6)), hEn]
  have hEg : zEn M (gr - 1) (n + 1) = r2 := by
    by_cases p : 0 < b
    · have w9 : zW M n = b := by rw [zW_T (by rw [M5]; exact p), M5]
      by_cases q : re < rn + b
      · rw [zEn_1 M6 (by rw [hEn, ← e3, M3, w9]; exact q), M3, w9, hr2, if_pos q]
      · rw [zEn_0 (fun z => by have := z.2; rw [hEn, ← e3, M3, w9] at this; exact q this), hEn, ← e3, hr2, if_neg q]
    · have w9 : zW M n = 1 := zW_F (by rw [M5]; exact p)
      rw [zEn_0 (fun z => by have := z.2; rw [hEn, ← e3, M3, w9] at this; omega), hEn, ← e3, hr2, if_neg (by omega)]
  have hCo : zCo M (n + 1) = c2 := by
    have q9 : zCo M n = ce := by rw [e4]; exact zCo_congr (m := mm) (m' := M) n (fun k hk => ⟨Mn 2 k (by omega), Mn 4 k (by omega)⟩)
    by_cases q : ce < x + a
    · rw [zCo_1 (by rw [q9, M2, M4]; exact q), M2, M4, hc2, if_pos q]
    · rw [zCo_0 (by rw [q9, M2, M4]; exact q), q9, hc2, if_neg q]
  generalize hG : zpu d n (zrec x rn a c1 d1 e1 (if b = 0 then 1 else 0) b 0 0) = G
  have Gn : ∀ j k, k ≠ n → G j k = d j k := fun j k p => by rw [← hG]; exact zpu_n p
  have Gs : ∀ j, G j n = zrec x rn a c1 d1 e1 (if b = 0 then 1 else 0) b 0 0 j := fun j => by rw [← hG]; exact zpu_s
  have G1 : G 1 n = rn := Gs 1
  have G6 : G 6 n = (if b = 0 then 1 else 0) := Gs 6
  have dn : ∀ j k, j ≠ 7 → zGw G (n + 1) gs r2 j k = G j k := fun j k p => zGw_n (fun q => p q.1)
  have hcs : ∀ k, k < n + 1 → zIc (zGw G (n + 1) gs r2) M (n + 1) gr k := by
    intro k hk
    by_cases e : k = n
    · subst e
      refine ⟨⟨?_, ?_, ?_, ?_, ?_, ?_, ?_, ?_⟩, ?_, ?_, ?_, ?_, ?_, ?_, ?_, ?_⟩
      · rw [dn 0 _ (by decide), M2]; exact Gs 0
      · rw [dn 1 _ (by decide), M3]; exact Gs 1
      · rw [dn 2 _ (by decide), M4]; exact Gs 2
      · rw [dn 3 _ (by decide), M7]; exact Gs 3
      · rw [dn 4 _ (by decide), M8]; exact Gs 4
      · rw [dn 5 _ (by decide), M9]; exact Gs 5
      · rw [dn 8 _ (by decide), M10]; exact Gs 8
      · rw [dn 9 _ (by decide), M11]; exact Gs 9
      · rw [dn 6 _ (by decide), M5]; exact Gs 6
      · by_cases p : 0 < b
        · rw [zGw_n (fun q => by have := q.2.2.1; rw [G6, if_neg (by omega)] at this; exact this rfl), zDn_T (by rw [M5]; exact p), M5]; exact Gs 7
        · rw [zGw_7 ⟨hk, by rw [G6, if_pos (by omega)]; omega, by rw [G1]; omega⟩, zDn_F (by rw [M5]; exact p), M6, M3, G1, hEg]
      · intro j hj
        rw [dn j _ (by omega), Gs]
        match j, hj with
        | (j + 10), _ => rfl
      · rw [M6]; omega
      · rw [M2, M4]; exact hx
      · rw [M4]; exact hab.1
      · rw [M6, M0, M3]; omega
      · rw [M6, M0, M1, M3]; omega
    · have hk' : k < n := by omega
      have en := zI_end hz hk'
      have bs := zEn_base (m := mm) (g := mm 6 k) n
      obtain ⟨⟨q0, q1, q2, q3, q4, q5, q8, q9⟩, q6, q7, qx, u1, u2, u3, u4, u5⟩ := hc k hk'
      refine ⟨⟨?_, ?_, ?_, ?_, ?_, ?_, ?_, ?_⟩, ?_, ?_, ?_, ?_, ?_, ?_, ?_, ?_⟩
      · rw [dn 0 _ (by decide), Gn _ _ e, Mn _ _ e]; exact q0
      · rw [dn 1 _ (by decide), Gn _ _ e, Mn _ _ e]; exact q1
      · rw [dn 2 _ (by decide), Gn _ _ e, Mn _ _ e]; exact q2
      · rw [dn 3 _ (by decide), Gn _ _ e, Mn _ _ e]; exact q3
      · rw [dn 4 _ (by decide), Gn _ _ e, Mn _ _ e]; exact q4
      · rw [dn 5 _ (by decide), Gn _ _ e, Mn _ _ e]; exact q5
      · rw [dn 8 _ (by decide), Gn _ _ e, Mn _ _ e]; exact q8
      · rw [dn 9 _ (by decide), Gn _ _ e, Mn _ _ e]; exact q9
      · rw [dn 6 _ (by decide), Gn _ _ e, Mn _ _ e]; exact q6
      · by_cases p : 0 < mm 5 k
        · rw [zGw_n (fun q => by have := q.2.2.1; rw [Gn _ _ e, q6, if_neg (by omega)] at this; exact this rfl), Gn _ _ e, q7, zDn_T p, zDn_T (by rw [Mn _ _ e]; exact p), Mn _ _ e]
        · rw [zDn_F (m := M) (by rw [Mn _ _ e]; exact p), Mn 6 _ e, Mn 3 _ e]
          by_cases g9 : mm 6 k = gr - 1
          · rw [zGw_7 ⟨hk, by rw [Gn _ _ e, q6, if_pos (by omega)]; omega, by rw [Gn _ _ e, q1]; rw [g9] at u4; omega⟩, Gn _ _ e, q1, g9, hEg]
          · have := hg (mm 6 k) (by omega)
            rw [zGw_n (fun q => by have := q.2.2.2; rw [Gn _ _ e, q1] at this; omega), Gn _ _ e, q7, zDn_F p, hE _ g9]
      · intro j hj; rw [dn j _ (by omega), Gn _ _ e]; exact qx j hj
      · rw [Mn _ _ e]; exact u1
      · rw [Mn _ _ e, Mn _ _ e]; exact u2
      · rw [Mn _ _ e]; exact u3
      · rw [Mn 6 _ e, Mn 3 _ e, M0]; exact u4
      · rw [Mn 6 _ e, Mn 3 _ e, M0, M1]; exact u5
  refine ⟨⟨h1, h2, by omega⟩, ⟨by rw [M0]; exact e1', by rw [M1]; exact e2, hEg.symm, hCo.symm⟩, ⟨by omega, by omega, by omega⟩, Mle, hcs, fun g p => by rw [hE g (by omega)]; exact hg g p, ⟨r1, r2', r3, hx, r5, fun _ j hj => ?_⟩⟩
  rcases Nat.lt_or_ge j x with p | p
  · obtain ⟨k, hk, z1, z2⟩ := hfr j p
    have hne : k ≠ n := by omega
    have en := zI_end hz hk
    obtain ⟨⟨q0, q1, q2, -⟩, q6, q7, qx, u1, u2, u3, u4, u5⟩ := hc k hk
    obtain ⟨⟨w0, w1, w2, -⟩, w6, w7, -⟩ := hcs k (by omega)
    refine ⟨k, by omega, ?_, ?_⟩
    · rw [dn 0 _ (by decide), dn 2 _ (by decide), Gn _ _ hne, Gn _ _ hne]; exact z1
    · rw [w1, w7, Mn _ _ hne]
      rw [q1, q7] at z2
      refine ⟨z2.1, Nat.lt_of_lt_of_le z2.2 ?_⟩
      have le : zDn mm n k ≤ zDn M (n + 1) k := by
        by_cases s9 : 0 < mm 5 k
        · rw [zDn_T s9, zDn_T (m := M) (by rw [Mn _ _ hne]; exact s9), Mn _ _ hne]; exact Nat.le_refl _
        · rw [zDn_F s9, zDn_F (m := M) (by rw [Mn _ _ hne]; exact s9), Mn 6 _ hne, Mn 3 _ hne]
          by_cases g9 : mm 6 k = gr - 1
          · rw [g9, hEg, ← e3]; omega
          · rw [hE _ g9]; exact Nat.le_refl _
      omega
  · obtain ⟨⟨w0, w1, w2, -⟩, w6, w7, -⟩ := hcs n (by omega)
    refine ⟨n, by omega, ?_, ?_⟩
    · rw [w0, w2, M2, M4]; omega
    · rw [w1, w7, M3]
      refine ⟨Nat.le_refl _, ?_⟩
      by_cases s9 : 0 < b
      · rw [zDn_T (m := M) (by rw [M5]; exact s9), M5]; omega
      · rw [zDn_F (m := M) (by rw [M5]; exact s9), M6, M3, hEg]; omega
end ZIK
