/-! ===== a call of the class and the same call of the reference ===== -/
section ZIL
variable {n : Nat} {d : Nat → Nat → Nat} {gr gs bg re ce : Nat} {mm : Nat → Nat → Nat} {rg rn ro : Nat}
theorem zL_group (h : zI n d gr gs bg re ce mm rg rn ro) {r q : Int32} {gr2 gs2 bg2 mg2 : Nat} {m2 : Nat → Nat → Nat}
    (h1 : (gr = 8 ∧ r = -1 ∧ gr2 = gr ∧ gs2 = gs ∧ bg2 = bg) ∨ (¬ gr = 8 ∧ r = nI (gr + 1) ∧ gr2 = gr + 1 ∧ gs2 = re ∧ bg2 = 0))
    (h2 : (gr = 8 ∧ q = -1 ∧ mg2 = gr ∧ m2 = mm) ∨ (¬ gr = 8 ∧ q = nI (gr + 1) ∧ mg2 = gr + 1 ∧ m2 = zmGr mm n gr)) : r = q ∧ mg2 = gr2 ∧ zI n d gr2 gs2 bg2 re ce m2 rg rn ro := by
  rcases h1 with ⟨a, rfl, rfl, rfl, rfl⟩ | ⟨a, rfl, rfl, rfl, rfl⟩
  · rcases h2 with ⟨b, rfl, rfl, rfl⟩ | ⟨b, -⟩
    · exact ⟨rfl, rfl, h⟩
    · exact absurd a b
  · rcases h2 with ⟨b, -⟩ | ⟨b, rfl, rfl, rfl⟩
    · exact absurd b a
    · exact ⟨rfl, rfl, zI_group h a⟩
theorem zL_row (h : zI n d gr gs bg re ce mm rg rn ro) {r q : Int32} {bg2 re2 rg2 rn2 ro2 : Nat} {d2 m2 : Nat → Nat → Nat}
    (h1 : (11 < gs + bg ∧ r = -1 ∧ bg2 = bg ∧ re2 = re ∧ d2 = d) ∨ (¬ 11 < gs + bg ∧ r = nI (gs + bg) ∧ bg2 = bg + 1 ∧ re2 = (if re < gs + bg + 1 then gs + bg + 1 else re) ∧ d2 = zGw d n gs re2))
    (h2 : (11 < mm 0 (gr - 1) + mm 1 (gr - 1) ∧ q = -1 ∧ rg2 = rg ∧ rn2 = rn ∧ ro2 = ro ∧ m2 = mm) ∨ (¬ 11 < mm 0 (gr - 1) + mm 1 (gr - 1) ∧ q = nI (mm 0 (gr - 1) + mm 1 (gr - 1)) ∧ rg2 = gr ∧ rn2 = mm 0 (gr - 1) + mm 1 (gr - 1) ∧ ro2 = 0 ∧ m2 = zmRw mm gr)) : r = q ∧ zI n d2 gr gs bg2 re2 ce m2 rg2 rn2 ro2 := by
  have e1 := h.2.1.1
  have e2 := h.2.1.2.1
  rw [← e1, ← e2] at h2
  rcases h1 with ⟨a, rfl, rfl, rfl, rfl⟩ | ⟨a, rfl, rfl, hr, rfl⟩
  · rcases h2 with ⟨b, rfl, rfl, rfl, rfl, rfl⟩ | ⟨b, -⟩
    · exact ⟨rfl, h⟩
    · exact absurd a b
  · rcases h2 with ⟨b, -⟩ | ⟨b, rfl, rfl, rfl, rfl, rfl⟩
    · exact absurd b a
    · exact ⟨rfl, zI_row h a hr⟩
theorem zL_border (h : zI n d gr gs bg re ce mm rg rn ro) (hn : n < 2147483648) {k t w r q : Int32} {d2 m2 : Nat → Nat → Nat}
    (h1 : (¬ ((0 ≤ k.toInt ∧ k.toInt < n) ∧ (0 ≤ t.toInt ∧ t.toInt ≤ 9) ∧ (0 ≤ w.toInt ∧ w.toInt ≤ 4)) ∧ r = 0 ∧ d2 = d) ∨ ∃ k1 t1 w1, k1 < n ∧ t1 ≤ 9 ∧ w1 ≤ 4 ∧ k = nI k1 ∧ t = nI t1 ∧ w = nI w1 ∧ r = 1 ∧ d2 = zup (zup d 8 k1 t1) 9 k1 w1)
    (h2 : (¬ ((0 ≤ k.toInt ∧ k.toInt < n) ∧ (0 ≤ t.toInt ∧ t.toInt ≤ 9) ∧ (0 ≤ w.toInt ∧ w.toInt ≤ 4)) ∧ q = 0 ∧ m2 = mm) ∨ ∃ k1 t1 w1, k1 < n ∧ t1 ≤ 9 ∧ w1 ≤ 4 ∧ k = nI k1 ∧ t = nI t1 ∧ w = nI w1 ∧ q = 1 ∧ m2 = zmBo mm k1 t1 w1) : r = q ∧ zI n d2 gr gs bg re ce m2 rg rn ro := by
  have tI : ∀ x : Nat, x < 2147483648 → (nI x).toInt = x := fun x hx => nI_toInt hx
  rcases h1 with ⟨a, rfl, rfl⟩ | ⟨k1, t1, w1, a1, a2, a3, rfl, rfl, rfl, rfl, rfl⟩
  · rcases h2 with ⟨b, rfl, rfl⟩ | ⟨k1, t1, w1, a1, a2, a3, rfl, rfl, rfl, rfl, rfl⟩
    · exact ⟨rfl, h⟩
    · rw [tI k1 (by omega), tI t1 (by omega), tI w1 (by omega)] at a
      exact absurd (by omega) a
  · rcases h2 with ⟨b, rfl, rfl⟩ | ⟨k2, t2, w2, b1, b2, b3, e1, e2, e3, rfl, rfl⟩
    · rw [tI k1 (by omega), tI t1 (by omega), tI w1 (by omega)] at b
      exact absurd (by omega) b
    · have f1 := (nI_eq (by omega) (by omega)).mp e1
      have f2 := (nI_eq (by omega) (by omega)).mp e2
      have f3 := (nI_eq (by omega) (by omega)).mp e3
      subst f1 f2 f3
      exact ⟨rfl, zI_border h a2 a3⟩
theorem zGood_nat {a b c d e : Nat} (ha : a < 2147483648) (hb : b < 2147483648) (hc : c < 2147483648) (hd : d < 2147483648) (he : e < 2147483648) (h : zGood (nI a) (nI b) (nI c) (nI d) (nI e)) : 1 ≤ a ∧ a ≤ 6 ∧ b ≤ 6 ∧ c ≤ d ∧ d ≤ 1000 ∧ e ≤ 1000 := by
  unfold zGood at h
  rw [nI_toInt ha, nI_toInt hb, nI_toInt hc, nI_toInt hd, nI_toInt he] at h
  omega
/-- numbers of a good cell, as naturals -/
theorem zGood_of {a b c d e : Int32} (h : zGood a b c d e) : ∃ av bv cv dv ev, a = nI av ∧ b = nI bv ∧ c = nI cv ∧ d = nI dv ∧ e = nI ev ∧ 1 ≤ av ∧ av ≤ 6 ∧ bv ≤ 6 ∧ cv ≤ dv ∧ dv ≤ 1000 ∧ ev ≤ 1000 := by
  have h0 := h
  unfold zGood at h0
  obtain ⟨av, h1, rfl⟩ := z_ofIn (c := a) (n := 1001) (by omega) (by omega) (by omega)
  obtain ⟨bv, h2, rfl⟩ := z_ofIn (c := b) (n := 1001) (by omega) (by omega) (by omega)
  obtain ⟨cv, h3, rfl⟩ := z_ofIn (c := c) (n := 1001) (by omega) (by omega) (by omega)
  obtain ⟨dv, h4, rfl⟩ := z_ofIn (c := d) (n := 1001) (by omega) (by omega) (by omega)
  obtain ⟨ev, h5, rfl⟩ := z_ofIn (c := e) (n := 1001) (by omega) (by omega) (by omega)
  have q := zGood_nat (by omega) (by omega) (by omega) (by omega) (by omega) h
  exact ⟨av, bv, cv, dv, ev, rfl, rfl, rfl, rfl, rfl, q⟩
theorem zL_num {a b c d e a' b' c' d' e' : Nat} (h : zBd a b c d e) (h' : zBd a' b' c' d' e') (e1 : nI a = nI a') (e2 : nI b = nI b') (e3 : nI c = nI c') (e4 : nI d = nI d') (e5 : nI e = nI e') : a = a' ∧ b = b' ∧ c = c' ∧ d = d' ∧ e = e' := by
  unfold zBd at h h'
  exact ⟨(nI_eq (by omega) (by omega)).mp e1, (nI_eq (by omega) (by omega)).mp e2, (nI_eq (by omega) (by omega)).mp e3, (nI_eq (by omega) (by omega)).mp e4, (nI_eq (by omega) (by omega)).mp e5⟩
theorem zL_cell (h : zI n d gr gs bg re ce mm rg rn ro) {a b c1 d1 e1 r q : Int32} {n2 re2 ce2 n3 ro2 : Nat} {ad ad2 : Nat → Nat} {d2 m2 : Nat → Nat → Nat} (h1 : zCf n gs bg re ce ad d a b c1 d1 e1 r n2 re2 ce2 ad2 d2) (h2 : zmCf mm n rg gr rn ro a b c1 d1 e1 q n3 ro2 m2) : r = q ∧ n3 = n2 ∧ zI n2 d2 gr gs bg re2 ce2 m2 rg rn ro2 := by
  have hz := h
  obtain ⟨⟨k1, k2, k3⟩, -, -, -, -, -, ⟨r1, r2, r3, r4, r5, r6⟩⟩ := h
  rcases h2 with ⟨g2, rfl, rfl, rfl, rfl⟩ | ⟨⟨g2, grg, gn⟩, y, a2, b2, c2, d3, e2, B2, hy, E1, E2, E3, E4, E5, h2⟩
  · rcases h1 with ⟨g1, rfl, rfl, rfl, rfl, rfl, rfl⟩ | ⟨g1, av, bv, cv, dv, ev, B1, rfl, rfl, rfl, rfl, rfl, h1⟩
    · exact ⟨rfl, rfl, hz⟩
    · rcases h1 with ⟨-, rfl, rfl, rfl, rfl, rfl, rfl⟩ | ⟨o, -⟩
      · exact ⟨rfl, rfl, hz⟩
      · exact absurd ⟨g1, r2.mpr (fun z => o (Or.inl z)), by omega⟩ g2
  · rcases h1 with ⟨g1, -⟩ | ⟨g1, av, bv, cv, dv, ev, B1, rfl, rfl, rfl, rfl, rfl, h1⟩
    · exact absurd g2 g1
    · have hrn := r3 grg
      have hb := r2.mp grg
      obtain ⟨rfl, rfl, rfl, rfl, rfl⟩ := zL_num B1 B2 E1 E2 E3 E4 E5
      unfold zBd at B1
      have G := zGood_nat (by omega) (by omega) (by omega) (by omega) (by omega) g2
      rcases h1 with ⟨o, -⟩ | ⟨-, x, hx, h1⟩
      · exact absurd o (by omega)
      · rw [← hrn] at hx h1
        have exy := zI_free hz grg hx hy
        subst exy
        rcases h1 with ⟨o1, rfl, rfl, rfl, rfl, rfl, rfl⟩ | ⟨o1, rfl, rfl, hre, hce, -, rfl⟩
        · rcases h2 with ⟨o2, rfl, rfl, rfl, rfl⟩ | ⟨o2, -⟩
          · exact ⟨rfl, rfl, hz⟩
          · exact absurd o1 o2
        · rcases h2 with ⟨o2, -⟩ | ⟨o2, rfl, rfl, rfl, rfl⟩
          · exact absurd o2 o1
          · refine ⟨rfl, rfl, ?_⟩
            have P := zI_put (r2 := re2) (c2 := ce2) hz grg (by omega) (x := x) (a := av) (b := bv) (c1 := cv) (d1 := dv) (e1 := ev) (by omega) (by omega) (by omega) (fun j hj => hx.2.2.1 j (Nat.zero_le _) hj) hre hce
            rw [grg] at P ⊢
            exact P
/-- the first cell of all -/
theorem zL_first (h : zI 0 d gr gs bg re 0 mm rg rn ro) {a b c1 d1 e1 : Nat} {q : Int32} {n3 ro2 : Nat} {m2 : Nat → Nat → Nat} (B1 : zBd a b c1 d1 e1) (hg : zGood (nI a) (nI b) (nI c1) (nI d1) (nI e1)) (hy : ¬ bg = 0 ∧ gs + bg - 1 + b ≤ 12) (h2 : zmCf mm 0 rg gr rn ro (nI a) (nI b) (nI c1) (nI d1) (nI e1) q n3 ro2 m2) :
    nI 0 = q ∧ n3 = 1 ∧ zI 1 (zGw (zpu d 0 (zrec 0 (gs + bg - 1) a c1 d1 e1 (if b = 0 then 1 else 0) b 0 0)) 1 gs (if re < gs + bg - 1 + b then gs + bg - 1 + b else re)) gr gs bg (if re < gs + bg - 1 + b then gs + bg - 1 + b else re) (0 + a) m2 rg rn ro2 := by
  have hz := h
  obtain ⟨⟨k1, k2, k3⟩, -, -, -, -, -, ⟨r1, r2, r3, r4, r5, r6⟩⟩ := h
  have grg := r2.mpr hy.1
  have hrn := r3 grg
  rcases h2 with ⟨g2, -⟩ | ⟨-, y, a2, b2, c2, d3, e2, B2, hy2, E1, E2, E3, E4, E5, h2⟩
  · exact absurd ⟨hg, grg, by omega⟩ g2
  · obtain ⟨rfl, rfl, rfl, rfl, rfl⟩ := zL_num B1 B2 E1 E2 E3 E4 E5
    unfold zBd at B1
    have G := zGood_nat (by omega) (by omega) (by omega) (by omega) (by omega) hg
    have e0 := zI_free hz grg (x := 0) ⟨Nat.le_refl _, by omega, fun j _ hj => absurd hj (Nat.not_lt_zero _), fun _ hw => by obtain ⟨k, hk, -⟩ := hw; exact absurd hk (Nat.not_lt_zero _)⟩ hy2
    subst e0
    rcases h2 with ⟨o2, -⟩ | ⟨o2, rfl, rfl, rfl, rfl⟩
    · exact absurd o2 (by omega)
    · refine ⟨rfl, rfl, ?_⟩
      have P := zI_put (r2 := if re < rn + b then rn + b else re) (c2 := 0 + a) hz grg (by omega) (x := 0) (a := a) (b := b) (c1 := c1) (d1 := d1) (e1 := e1) (by omega) (by omega) (by omega) (fun j hj => absurd hj (Nat.not_lt_zero _)) rfl (by rw [if_pos (by omega)])
      rw [← hrn]
      rw [grg] at P ⊢
      exact P
theorem zL_refuse (h : zI 0 d gr gs bg re 0 mm rg rn ro) {a b c1 d1 e1 q : Int32} {n3 ro2 : Nat} {m2 : Nat → Nat → Nat} (hno : ¬ zGood a b c1 d1 e1 ∨ bg = 0 ∨ 12 < ((gs + bg - 1 : Nat) : Int) + b.toInt) (h2 : zmCf mm 0 rg gr rn ro a b c1 d1 e1 q n3 ro2 m2) : -1 = q ∧ n3 = 0 ∧ ro2 = ro ∧ m2 = mm := by
  obtain ⟨⟨k1, k2, k3⟩, -, -, -, -, -, ⟨r1, r2, r3, r4, r5, r6⟩⟩ := h
  rcases h2 with ⟨-, rfl, rfl, rfl, rfl⟩ | ⟨⟨g2, grg, gn⟩, y, a2, b2, c2, d3, e2, B2, hy2, rfl, rfl, rfl, rfl, rfl, h2⟩
  · exact ⟨rfl, rfl, rfl, rfl⟩
  · rcases h2 with ⟨-, rfl, rfl, rfl, rfl⟩ | ⟨o2, -⟩
    · exact ⟨rfl, rfl, rfl, rfl⟩
    · unfold zBd at B2
      have hrn := r3 grg
      rcases hno with p | p | p
      · exact absurd g2 p
      · exact absurd p (r2.mp grg)
      · rw [nI_toInt (by omega)] at p
        exact absurd (Or.inr (by omega)) o2
end ZIL
theorem zI_num {n : Nat} {d : Nat → Nat → Nat} {gr gs bg re ce : Nat} {mm : Nat → Nat → Nat} {rg rn ro : Nat} (h : zI n d gr gs bg re ce mm rg rn ro) : 1 ≤ gr ∧ gr ≤ 8 ∧ n ≤ 40 ∧ gs + bg ≤ re ∧ re ≤ 12 ∧ ce ≤ 12 ∧ rg ≤ gr ∧ ro ≤ 12 ∧ rn ≤ 1000 := by
  obtain ⟨⟨h1, h2, h3⟩, -, ⟨l1, l2, l3⟩, -, -, -, ⟨r1, r2, r3, r4, r5, r6⟩⟩ := h
  exact ⟨h1, h2, h3, l1, l2, l3, r1, r4, r5⟩
