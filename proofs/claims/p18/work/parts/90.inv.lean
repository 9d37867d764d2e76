/-! ===== the tie of the class and the reference ===== -/
theorem zEn_base {m : Nat → Nat → Nat} {g : Nat} : ∀ n, m 0 g + m 1 g ≤ zEn m g n := by
  intro n
  induction n with
  | zero => exact Nat.le_refl _
  | succ n ih =>
    by_cases h : m 6 n = g ∧ zEn m g n < m 3 n + zW m n
    · rw [zEn_1 h.1 h.2]; omega
    · rw [zEn_0 h]; exact ih
theorem zEn_cell {m : Nat → Nat → Nat} {g : Nat} : ∀ {n k : Nat}, k < n → m 6 k = g → m 3 k + zW m k ≤ zEn m g n := by
  intro n
  induction n with
  | zero => intro k h; exact absurd h (Nat.not_lt_zero _)
  | succ n ih =>
    intro k hk hg
    by_cases h : m 6 n = g ∧ zEn m g n < m 3 n + zW m n
    · rw [zEn_1 h.1 h.2]
      by_cases e : k = n
      · subst e; exact Nat.le_refl _
      · have := ih (k := k) (by omega) hg
        omega
    · rw [zEn_0 h]
      by_cases e : k = n
      · subst e
        rcases Nat.lt_or_ge (zEn m g k) (m 3 k + zW m k) with h2 | h2
        · exact absurd ⟨hg, h2⟩ h
        · exact h2
      · exact ih (by omega) hg
theorem zEn_congr {m m' : Nat → Nat → Nat} {g : Nat} (h0 : m' 0 g + m' 1 g = m 0 g + m 1 g) : ∀ n, (∀ k, k < n → m' 3 k = m 3 k ∧ m' 5 k = m 5 k ∧ m' 6 k = m 6 k) → zEn m' g n = zEn m g n := by
  intro n
  induction n with
  | zero => intro _; exact h0
  | succ n ih =>
    intro h
    have hn := h n (by omega)
    have e1 := ih (fun k hk => h k (by omega))
    have ew : zW m' n = zW m n := by unfold zW; rw [hn.2.1]
    show (if m' 6 n = g ∧ zEn m' g n < m' 3 n + zW m' n then m' 3 n + zW m' n else zEn m' g n) = (if m 6 n = g ∧ zEn m g n < m 3 n + zW m n then m 3 n + zW m n else zEn m g n)
    rw [hn.1, hn.2.2, e1, ew]
theorem zEn_up {m m' : Nat → Nat → Nat} {g : Nat} (h0 : m' 0 g + m' 1 g = m 0 g + m 1 g + 1) : ∀ n, (∀ k, k < n → m' 3 k = m 3 k ∧ m' 5 k = m 5 k ∧ m' 6 k = m 6 k) → zEn m' g n = if zEn m g n < m 0 g + m 1 g + 1 then m 0 g + m 1 g + 1 else zEn m g n := by
  intro n
  induction n with
  | zero =>
    intro _
    show m' 0 g + m' 1 g = if m 0 g + m 1 g < m 0 g + m 1 g + 1 then m 0 g + m 1 g + 1 else m 0 g + m 1 g
    rw [if_pos (by omega), h0]
  | succ n ih =>
    intro h
    have hn := h n (by omega)
    have e1 := ih (fun k hk => h k (by omega))
    have ew : zW m' n = zW m n := by unfold zW; rw [hn.2.1]
    show (if m' 6 n = g ∧ zEn m' g n < m' 3 n + zW m' n then m' 3 n + zW m' n else zEn m' g n) = (if (if m 6 n = g ∧ zEn m g n < m 3 n + zW m n then m 3 n + zW m n else zEn m g n) < m 0 g + m 1 g + 1 then m 0 g + m 1 g + 1 else (if m 6 n = g ∧ zEn m g n < m 3 n + zW m n then m 3 n + zW m n else zEn m g n))
    rw [hn.1, hn.2.2, e1, ew]
    generalize zEn m g n = E
    generalize m 3 n + zW m n = C
    by_cases hg : m 6 n = g
    · simp only [hg, true_and]
      repeat' split
      all_goals omega
    · simp only [hg, false_and, if_false]
theorem zEn_none {m : Nat → Nat → Nat} {g : Nat} : ∀ n, (∀ k, k < n → ¬ m 6 k = g) → zEn m g n = m 0 g + m 1 g := by
  intro n
  induction n with
  | zero => intro _; rfl
  | succ n ih =>
    intro h
    rw [zEn_0 (fun q => h n (by omega) q.1)]
    exact ih (fun k hk => h k (by omega))
theorem zCo_cell {m : Nat → Nat → Nat} : ∀ {n k : Nat}, k < n → m 2 k + m 4 k ≤ zCo m n := by
  intro n
  induction n with
  | zero => intro k h; exact absurd h (Nat.not_lt_zero _)
  | succ n ih =>
    intro k hk
    by_cases h : zCo m n < m 2 n + m 4 n
    · rw [zCo_1 h]
      by_cases e : k = n
      · subst e; exact Nat.le_refl _
      · have := ih (k := k) (by omega)
        omega
    · rw [zCo_0 h]
      by_cases e : k = n
      · subst e; omega
      · exact ih (by omega)
theorem zCo_congr {m m' : Nat → Nat → Nat} : ∀ n, (∀ k, k < n → m' 2 k = m 2 k ∧ m' 4 k = m 4 k) → zCo m' n = zCo m n := by
  intro n
  induction n with
  | zero => intro _; rfl
  | succ n ih =>
    intro h
    have hn := h n (by omega)
    have e1 := ih (fun k hk => h k (by omega))
    show (if zCo m' n < m' 2 n + m' 4 n then m' 2 n + m' 4 n else zCo m' n) = (if zCo m n < m 2 n + m 4 n then m 2 n + m 4 n else zCo m n)
    rw [hn.1, hn.2, e1]
/-- a cell of both -/
def zIc (d mm : Nat → Nat → Nat) (n gr k : Nat) : Prop :=
  (d 0 k = mm 2 k ∧ d 1 k = mm 3 k ∧ d 2 k = mm 4 k ∧ d 3 k = mm 7 k ∧ d 4 k = mm 8 k ∧ d 5 k = mm 9 k ∧ d 8 k = mm 10 k ∧ d 9 k = mm 11 k) ∧
  d 6 k = (if mm 5 k = 0 then 1 else 0) ∧ d 7 k = zDn mm n k ∧ (∀ j, 10 ≤ j → d j k = 0) ∧
  mm 6 k < gr ∧ mm 2 k + mm 4 k ≤ 12 ∧ 1 ≤ mm 4 k ∧ mm 0 (mm 6 k) ≤ mm 3 k ∧ mm 3 k < mm 0 (mm 6 k) + mm 1 (mm 6 k)
/-- the class and the reference -/
def zI (n : Nat) (d : Nat → Nat → Nat) (gr gs bg re ce : Nat) (mm : Nat → Nat → Nat) (rg rn ro : Nat) : Prop :=
  (1 ≤ gr ∧ gr ≤ 8 ∧ n ≤ 40) ∧ (gs = mm 0 (gr - 1) ∧ bg = mm 1 (gr - 1) ∧ re = zEn mm (gr - 1) n ∧ ce = zCo mm n) ∧ (gs + bg ≤ re ∧ re ≤ 12 ∧ ce ≤ 12) ∧ (∀ a k, mm a k ≤ 1000) ∧
  (∀ k, k < n → zIc d mm n gr k) ∧ (∀ g, g < gr - 1 → zEn mm g n ≤ gs) ∧
  (rg ≤ gr ∧ (rg = gr ↔ ¬ bg = 0) ∧ (rg = gr → rn = gs + bg - 1) ∧ ro ≤ 12 ∧ rn ≤ 1000 ∧ (rg = gr → ∀ x, x < ro → zOwd n d x rn))
section ZII
variable {n : Nat} {d : Nat → Nat → Nat} {gr gs bg re ce : Nat} {mm : Nat → Nat → Nat} {rg rn ro : Nat}
theorem zI_end (h : zI n d gr gs bg re ce mm rg rn ro) {k : Nat} (hk : k < n) : mm 3 k + zDn mm n k ≤ zEn mm (mm 6 k) n ∧ 1 ≤ zDn mm n k ∧ zEn mm (mm 6 k) n ≤ re := by
  obtain ⟨⟨h1, h2, h3⟩, ⟨e1, e2, e3, e4⟩, ⟨l1, l2, l3⟩, hm, hc, hg, hr⟩ := h
  obtain ⟨-, -, -, -, c1, c2, c3, c4, c5⟩ := hc k hk
  have b := zEn_base (m := mm) (g := mm 6 k) n
  have cl := zEn_cell (m := mm) (g := mm 6 k) hk rfl
  refine ⟨?_, ?_, ?_⟩
  · by_cases p : 0 < mm 5 k
    · rw [zDn_T p]; rw [zW_T p] at cl; exact cl
    · rw [zDn_F p]; omega
  · by_cases p : 0 < mm 5 k
    · rw [zDn_T p]; exact p
    · rw [zDn_F p]; omega
  · by_cases p : mm 6 k = gr - 1
    · rw [p, e3]; exact Nat.le_refl _
    · have := hg (mm 6 k) (by omega)
      omega
theorem zI_dle (h : zI n d gr gs bg re ce mm rg rn ro) : ∀ j k, k < n → d j k ≤ 1000 := by
  intro j k hk
  have e := zI_end h hk
  obtain ⟨⟨h1, h2, h3⟩, ⟨e1, e2, e3, e4⟩, ⟨l1, l2, l3⟩, hm, hc, hg, hr⟩ := h
  obtain ⟨⟨q0, q1, q2, q3, q4, q5, q8, q9⟩, q6, q7, qx, -⟩ := hc k hk
  match j with
  | 0 => rw [q0]; exact hm _ _
  | 1 => rw [q1]; exact hm _ _
  | 2 => rw [q2]; exact hm _ _
  | 3 => rw [q3]; exact hm _ _
  | 4 => rw [q4]; exact hm _ _
  | 5 => rw [q5]; exact hm _ _
  | 6 => rw [q6]; split <;> omega
  | 7 => rw [q7]; omega
  | 8 => rw [q8]; exact hm _ _
  | 9 => rw [q9]; exact hm _ _
  | (j + 10) => rw [qx (j + 10) (by omega)]; omega
theorem zI_top (h : zI n d gr gs bg re ce mm rg rn ro) : ∀ k, k < n → d 1 k ≤ re := by
  intro k hk
  have e := zI_end h hk
  rw [(h.2.2.2.2.1 k hk).1.2.1]
  omega
theorem zI_L (h : zI n d gr gs bg re ce mm rg rn ro) : ∀ k, k < n → d 0 k + d 2 k ≤ 12 := by
  intro k hk
  obtain ⟨⟨q0, q1, q2, -⟩, -, -, -, -, c2, -⟩ := h.2.2.2.2.1 k hk
  rw [q0, q2]; exact c2
theorem zI_R (h : zI n d gr gs bg re ce mm rg rn ro) : ∀ k, k < n → d 0 k + d 2 k ≤ ce := by
  intro k hk
  obtain ⟨⟨q0, q1, q2, -⟩, -⟩ := h.2.2.2.2.1 k hk
  rw [q0, q2, h.2.1.2.2.2]; exact zCo_cell hk
theorem zI_B (h : zI n d gr gs bg re ce mm rg rn ro) : ∀ k, k < n → d 1 k + d 7 k ≤ 12 := by
  intro k hk
  have e := zI_end h hk
  obtain ⟨⟨q0, q1, q2, -⟩, -, q7, -⟩ := h.2.2.2.2.1 k hk
  have := h.2.2.1
  rw [q1, q7]; omega
theorem zI_mG (h : zI n d gr gs bg re ce mm rg rn ro) : ∀ k, k < n → mm 6 k < 8 := by
  intro k hk
  obtain ⟨-, -, -, -, c1, -⟩ := h.2.2.2.2.1 k hk
  have := h.1
  omega
theorem zI_mE (h : zI n d gr gs bg re ce mm rg rn ro) : ∀ k, k < n → mm 3 k ≤ zEn mm (mm 6 k) n := by
  intro k hk
  have := zI_end h hk
  omega
theorem zI_mL (h : zI n d gr gs bg re ce mm rg rn ro) : ∀ k, k < n → mm 2 k + mm 4 k ≤ 12 ∧ 1 ≤ mm 4 k := by
  intro k hk
  obtain ⟨-, -, -, -, -, c2, c3, -⟩ := h.2.2.2.2.1 k hk
  exact ⟨c2, c3⟩
theorem zI_mT (h : zI n d gr gs bg re ce mm rg rn ro) : ∀ k, k < n → mm 3 k + zDn mm n k ≤ 12 ∧ 1 ≤ zDn mm n k := by
  intro k hk
  have e := zI_end h hk
  have := h.2.2.1
  exact ⟨by omega, e.2.1⟩
theorem zI_mR (h : zI n d gr gs bg re ce mm rg rn ro) : zEn mm (gr - 1) n ≤ 12 := by
  rw [← h.2.1.2.2.1]; exact h.2.2.1.2.1
/-- a cell covers a slot of the open row in the class where it does so in the reference -/
theorem zI_it (h : zI n d gr gs bg re ce mm rg rn ro) (hrg : rg = gr) {k x : Nat} (hk : k < n) : zIt mm rg rn x k ↔ zTN d k x rn := by
  have e := zI_end h hk
  have bs := zEn_base (m := mm) (g := mm 6 k) n
  obtain ⟨⟨h1, h2, h3⟩, ⟨e1, e2, e3, e4⟩, ⟨l1, l2, l3⟩, hm, hc, hg, ⟨r1, r2, r3, r4, r5, r6⟩⟩ := h
  obtain ⟨⟨q0, q1, q2, -⟩, q6, q7, -, c1, c2, c3, c4, c5⟩ := hc k hk
  have hb := r2.mp hrg
  have hrn := r3 hrg
  unfold zIt zTN
  rw [q0, q1, q2, q7]
  constructor
  · rintro ⟨⟨a1, a2⟩, a3⟩
    have a4 : mm 6 k = gr - 1 := by omega
    rw [a4] at c4 c5 bs e
    refine ⟨a3, by omega, ?_⟩
    by_cases p : 0 < mm 5 k
    · rw [zDn_T p]; omega
    · rw [zDn_F p, a4]; omega
  · rintro ⟨a3, a1, a2⟩
    have a4 : mm 6 k = gr - 1 := by
      rcases Nat.lt_or_ge (mm 6 k) (gr - 1) with p | p
      · have := hg (mm 6 k) p
        omega
      · omega
    refine ⟨⟨by omega, ?_⟩, a3⟩
    by_cases p : 0 < mm 5 k
    · rw [zDn_T p] at a2; exact Or.inr a2
    · exact Or.inl (by omega)
theorem zI_own (h : zI n d gr gs bg re ce mm rg rn ro) (hrg : rg = gr) {x : Nat} : (∃ k, k < n ∧ zIt mm rg rn x k) ↔ zOwd n d x rn :=
  ⟨fun ⟨k, hk, q⟩ => ⟨k, hk, (zI_it h hrg hk).mp q⟩, fun ⟨k, hk, q⟩ => ⟨k, hk, (zI_it h hrg hk).mpr q⟩⟩
theorem zI_free (h : zI n d gr gs bg re ce mm rg rn ro) (hrg : rg = gr) {x y : Nat} (hx : zFree (fun x => zOwd n d x rn) 0 x) (hy : zFree (fun x => ∃ k, k < n ∧ zIt mm rg rn x k) ro y) : x = y := by
  obtain ⟨-, x1, x2, x3⟩ := hx
  obtain ⟨y0, y1, y2, y3⟩ := hy
  have r6 := h.2.2.2.2.2.2.2.2.2.2.2 hrg
  have own : ∀ j, j < y → zOwd n d j rn := by
    intro j hj
    rcases Nat.lt_or_ge j ro with p | p
    · exact r6 j p
    · exact (zI_own h hrg).mp (y2 j p hj)
  rcases Nat.lt_trichotomy x y with p | p | p
  · exact absurd (own x p) (x3 (by omega))
  · exact p
  · exact absurd ((zI_own h hrg).mpr (x2 y (Nat.zero_le _) p)) (y3 (by omega))
end ZII
