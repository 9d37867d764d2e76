/-! the reference's own numbers: m 0 bases, 1 begun, 2 lefts, 3 tops, 4 across, 5 wants, 6 groupOf, 7 leasts, 8 mosts, 9 needs, 10 thick, 11 ranks -/
def zW (m : Nat → Nat → Nat) (k : Nat) : Nat := if 0 < m 5 k then m 5 k else 1
theorem zW_T {m : Nat → Nat → Nat} {k : Nat} (h : 0 < m 5 k) : zW m k = m 5 k := if_pos h
theorem zW_F {m : Nat → Nat → Nat} {k : Nat} (h : ¬ 0 < m 5 k) : zW m k = 1 := if_neg h
theorem zW_le {m : Nat → Nat → Nat} (hm : ∀ a k, m a k ≤ 1000) (k : Nat) : zW m k ≤ 1000 := by
  have := hm 5 k
  by_cases h : 0 < m 5 k
  · rw [zW_T h]; omega
  · rw [zW_F h]; omega
/-- the end of the group g, of the first k cells -/
def zEn (m : Nat → Nat → Nat) (g : Nat) : Nat → Nat
  | 0 => m 0 g + m 1 g
  | k + 1 => if m 6 k = g ∧ zEn m g k < m 3 k + zW m k then m 3 k + zW m k else zEn m g k
theorem zEn_1 {m : Nat → Nat → Nat} {g k : Nat} (h1 : m 6 k = g) (h2 : zEn m g k < m 3 k + zW m k) : zEn m g (k + 1) = m 3 k + zW m k := if_pos ⟨h1, h2⟩
theorem zEn_0 {m : Nat → Nat → Nat} {g k : Nat} (h : ¬ (m 6 k = g ∧ zEn m g k < m 3 k + zW m k)) : zEn m g (k + 1) = zEn m g k := if_neg h
theorem zEn_le {m : Nat → Nat → Nat} (hm : ∀ a k, m a k ≤ 1000) (g : Nat) : ∀ k, zEn m g k ≤ 2000 := by
  intro k
  induction k with
  | zero =>
    have h1 := hm 0 g
    have h2 := hm 1 g
    show m 0 g + m 1 g ≤ 2000
    omega
  | succ k ih =>
    have h1 := hm 3 k
    have h2 := zW_le hm k
    by_cases h : m 6 k = g ∧ zEn m g k < m 3 k + zW m k
    · rw [zEn_1 h.1 h.2]; omega
    · rw [zEn_0 h]; exact ih
/-- how many columns the first k cells take -/
def zCo (m : Nat → Nat → Nat) : Nat → Nat
  | 0 => 0
  | k + 1 => if zCo m k < m 2 k + m 4 k then m 2 k + m 4 k else zCo m k
theorem zCo_1 {m : Nat → Nat → Nat} {k : Nat} (h : zCo m k < m 2 k + m 4 k) : zCo m (k + 1) = m 2 k + m 4 k := if_pos h
theorem zCo_0 {m : Nat → Nat → Nat} {k : Nat} (h : ¬ zCo m k < m 2 k + m 4 k) : zCo m (k + 1) = zCo m k := if_neg h
theorem zCo_le {m : Nat → Nat → Nat} (hm : ∀ a k, m a k ≤ 1000) : ∀ k, zCo m k ≤ 2000 := by
  intro k
  induction k with
  | zero => exact Nat.zero_le _
  | succ k ih =>
    have h1 := hm 2 k
    have h2 := hm 4 k
    by_cases h : zCo m k < m 2 k + m 4 k
    · rw [zCo_1 h]; omega
    · rw [zCo_0 h]; exact ih
/-- how many rows the cell k takes, of n -/
def zDn (m : Nat → Nat → Nat) (n k : Nat) : Nat := if 0 < m 5 k then m 5 k else zEn m (m 6 k) n - m 3 k
theorem zDn_T {m : Nat → Nat → Nat} {n k : Nat} (h : 0 < m 5 k) : zDn m n k = m 5 k := if_pos h
theorem zDn_F {m : Nat → Nat → Nat} {n k : Nat} (h : ¬ 0 < m 5 k) : zDn m n k = zEn m (m 6 k) n - m 3 k := if_neg h
theorem zDn_le {m : Nat → Nat → Nat} (hm : ∀ a k, m a k ≤ 1000) (n k : Nat) : zDn m n k ≤ 2000 := by
  have h1 := hm 5 k
  have h2 := zEn_le hm (m 6 k) n
  by_cases h : 0 < m 5 k
  · rw [zDn_T h]; omega
  · rw [zDn_F h]; omega
/-- the cell k takes the column x of the row that is open -/
def zIt (m : Nat → Nat → Nat) (rg rn x k : Nat) : Prop := (m 6 k + 1 = rg ∧ (m 5 k = 0 ∨ rn < m 3 k + m 5 k)) ∧ (m 2 k ≤ x ∧ x < m 2 k + m 4 k)
theorem z_exL {P : Nat → Prop} {i : Nat} (h : ∃ k, k < i ∧ P k) : ∃ k, k < i + 1 ∧ P k := by
  obtain ⟨k, hk, hp⟩ := h
  exact ⟨k, by omega, hp⟩
theorem z_exR {P : Nat → Prop} {i : Nat} (h : P i) : ∃ k, k < i + 1 ∧ P k := ⟨i, by omega, h⟩
theorem z_ex0 {P : Nat → Prop} {i : Nat} (h : ¬ ∃ k, k < i ∧ P k) (h1 : ¬ P i) : ¬ ∃ k, k < i + 1 ∧ P k := by
  rintro ⟨k, hk, hp⟩
  by_cases e : k = i
  · subst e; exact h1 hp
  · exact h ⟨k, by omega, hp⟩
abbrev zMt (m : Nat → Nat → Nat) (n : Nat) (x y : Int32) (k : Nat) : Prop := zTk (m 2 k) (m 4 k) (m 3 k) (zDn m n k) x y
/-- the first from lo on -/
def zFf (lo n : Nat) (P : Nat → Prop) (r : Int32) : Prop := (r = -1 ∧ ∀ k, lo ≤ k → k < n → ¬ P k) ∨ ∃ k, lo ≤ k ∧ k < n ∧ r = nI k ∧ P k ∧ ∀ j, lo ≤ j → j < k → ¬ P j
theorem zFf_0 {n : Nat} {P : Nat → Prop} {r : Int32} (h : zFf 0 n P r) : zFst n P r := by
  rcases h with ⟨h1, h2⟩ | ⟨k, -, h2, h3, h4, h5⟩
  · exact Or.inl ⟨h1, fun k hk => h2 k (Nat.zero_le _) hk⟩
  · exact Or.inr ⟨k, h2, h3, h4, fun j hj => h5 j (Nat.zero_le _) hj⟩
theorem zFf_n {lo n : Nat} {P : Nat → Prop} (h : n ≤ lo) : zFf lo n P (-1) := Or.inl ⟨rfl, fun k h1 h2 => by omega⟩
theorem zFf_T {lo n : Nat} {P : Nat → Prop} (hn : lo < n) (hp : P lo) : zFf lo n P (nI lo) := Or.inr ⟨lo, Nat.le_refl _, hn, rfl, hp, fun j h1 h2 => by omega⟩
theorem zFf_F {lo n : Nat} {P : Nat → Prop} {r : Int32} (h : zFf (lo + 1) n P r) (hp : ¬ P lo) : zFf lo n P r := by
  rcases h with ⟨h1, h2⟩ | ⟨k, h1, h2, h3, h4, h5⟩
  · refine Or.inl ⟨h1, fun k hk hn => ?_⟩
    by_cases e : k = lo
    · subst e; exact hp
    · exact h2 k (by omega) hn
  · refine Or.inr ⟨k, by omega, h2, h3, h4, fun j hj hk => ?_⟩
    by_cases e : j = lo
    · subst e; exact hp
    · exact h5 j (by omega) hk
/-- how many cells lie over a slot -/
noncomputable def zHm (m : Nat → Nat → Nat) (n x y : Nat) : Nat := zCn (zMt m n (nI x) (nI y)) n
theorem zHm_le {m : Nat → Nat → Nat} (n x y : Nat) : zHm m n x y ≤ n := zCn_le n
def zOv (h : Nat → Nat) : Nat → Nat
  | 0 => 0
  | p + 1 => zOv h p + (h p - 1)
theorem zOv_le {h : Nat → Nat} {b : Nat} (hb : ∀ p, h p ≤ b) : ∀ p, zOv h p ≤ p * b := by
  intro p
  induction p with
  | zero => simp [zOv]
  | succ p ih =>
    have := hb p
    rw [zOv, Nat.add_mul, Nat.one_mul]
    omega
