/-- the slot x, y lies in the cell l, c, t, r -/
def zTk (l c t r : Nat) (x y : Int32) : Prop := ((l : Int) ≤ x.toInt ∧ x.toInt < l + c) ∧ ((t : Int) ≤ y.toInt ∧ y.toInt < t + r)
abbrev zTd (d : Nat → Nat → Nat) (k : Nat) (x y : Int32) : Prop := zTk (d 0 k) (d 2 k) (d 1 k) (d 7 k) x y
/-- the first of n for which P holds, or -1 -/
def zFst (n : Nat) (P : Nat → Prop) (r : Int32) : Prop := (r = -1 ∧ ∀ k, k < n → ¬ P k) ∨ ∃ k, k < n ∧ r = nI k ∧ P k ∧ ∀ j, j < k → ¬ P j
theorem zFst_eq {n : Nat} {P : Nat → Prop} {r q : Int32} (h1 : zFst n P r) (h2 : zFst n P q) : r = q := by
  rcases h1 with ⟨rfl, a⟩ | ⟨k, hk, rfl, hp, hf⟩ <;> rcases h2 with ⟨rfl, b⟩ | ⟨j, hj, rfl, hq, hg⟩
  · rfl
  · exact absurd hq (a j hj)
  · exact absurd hp (b k hk)
  · rcases Nat.lt_trichotomy k j with h | h | h
    · exact absurd hp (hg k h)
    · rw [h]
    · exact absurd hq (hf j h)
theorem z_tk1 {l c t r : Nat} {x y : Int32} (h : ((l : Int) ≤ x.toInt ∧ x.toInt < l + c) ∧ ((t : Int) ≤ y.toInt ∧ y.toInt < t + r)) : z_yn 1 (zTk l c t r x y) := z_y1 h
theorem z_tk0 {l c t r : Nat} {x y : Int32} (h : ¬ (((l : Int) ≤ x.toInt ∧ x.toInt < l + c) ∧ ((t : Int) ≤ y.toInt ∧ y.toInt < t + r))) : z_yn 0 (zTk l c t r x y) := z_y0 h
/-- how many of the first n are such -/
def zCnt (P : Nat → Bool) : Nat → Nat
  | 0 => 0
  | n + 1 => zCnt P n + (if P n then 1 else 0)
/-- the sum of the first n -/
def zSum (f : Nat → Nat) : Nat → Nat
  | 0 => 0
  | n + 1 => zSum f n + f n
theorem zSum_le {f : Nat → Nat} {b : Nat} : ∀ n, (∀ k, k < n → f k ≤ b) → zSum f n ≤ n * b := by
  intro n
  induction n with
  | zero => intro _; simp [zSum]
  | succ n ih =>
    intro h
    have h1 := ih (fun k hk => h k (by omega))
    have h2 := h n (by omega)
    rw [zSum, Nat.add_mul, Nat.one_mul]
    omega
/-- how many of the first n are such -/
noncomputable def zCn (P : Nat → Prop) : Nat → Nat
  | 0 => 0
  | n + 1 => zCn P n + @ite Nat (P n) (Classical.propDecidable _) 1 0
theorem zCn_T {P : Nat → Prop} {n : Nat} (h : P n) : zCn P (n + 1) = zCn P n + 1 := by
  show zCn P n + @ite Nat (P n) (Classical.propDecidable _) 1 0 = _
  rw [if_pos h]
theorem zCn_F {P : Nat → Prop} {n : Nat} (h : ¬ P n) : zCn P (n + 1) = zCn P n := by
  show zCn P n + @ite Nat (P n) (Classical.propDecidable _) 1 0 = _
  rw [if_neg h, Nat.add_zero]
theorem zCn_le {P : Nat → Prop} : ∀ n, zCn P n ≤ n := by
  intro n
  induction n with
  | zero => exact Nat.le_refl _
  | succ n ih =>
    by_cases h : P n
    · rw [zCn_T h]; omega
    · rw [zCn_F h]; omega
/-- none of the first n has the value x -/
def zEc (n : Nat) (f : Nat → Nat) (x : Nat) : Prop := ¬ ∃ k, k < n ∧ f k = x
/-- the slot x, y lies in the cell k -/
def zTN (d : Nat → Nat → Nat) (k x y : Nat) : Prop := (d 0 k ≤ x ∧ x < d 0 k + d 2 k) ∧ (d 1 k ≤ y ∧ y < d 1 k + d 7 k)
theorem zTd_nat {d : Nat → Nat → Nat} {k x y : Nat} (hx : x < 2147483648) (hy : y < 2147483648) : zTd d k (nI x) (nI y) ↔ zTN d k x y := by
  have h1 := nI_toInt (n := x) (by omega)
  have h2 := nI_toInt (n := y) (by omega)
  unfold zTd zTk zTN
  rw [h1, h2]
  omega
/-- some cell of n lies over the slot -/
def zOwd (n : Nat) (d : Nat → Nat → Nat) (x y : Nat) : Prop := ∃ k, k < n ∧ zTN d k x y
theorem zFst_none {n : Nat} {d : Nat → Nat → Nat} {x y : Nat} {r : Int32} (hn : n < 2147483648) (hx : x < 2147483648) (hy : y < 2147483648) (h : zFst n (fun k => zTd d k (nI x) (nI y)) r) : r.toInt = -1 ↔ ¬ zOwd n d x y := by
  rcases h with ⟨rfl, h⟩ | ⟨k, hk, rfl, hp, -⟩
  · refine ⟨fun _ => fun ⟨k, hk, hq⟩ => h k hk ((zTd_nat hx hy).mpr hq), fun _ => by decide⟩
  · have := nI_toInt (n := k) (by omega)
    refine ⟨fun h => by omega, fun h => absurd ⟨k, hk, (zTd_nat hx hy).mp hp⟩ h⟩
theorem z_ofIn {c : Int32} {n : Nat} (h0 : 0 ≤ c.toInt) (h1 : c.toInt < n) (hn : n < 2147483648) : ∃ k, k < n ∧ c = nI k := by
  refine ⟨c.toInt.toNat, by omega, z_eq' ?_⟩
  rw [nI_toInt (by omega)]
  omega
/-- the border of the cell (t, r) is drawn instead of that of the former (t0, r0) -/
def zPv (t r t0 r0 : Nat) : Prop := r0 ≠ 4 ∧ (r = 4 ∨ t0 < t ∨ (t = t0 ∧ r0 < r))
/-- whose border is drawn between a slot of the cell c1 and one of the cell c2 -/
def zDr (n : Nat) (th rk : Nat → Nat) (c1 c2 r : Int32) : Prop :=
  (c1 = c2 ∧ r = -1) ∨ (¬ c1 = c2 ∧ ¬ (0 ≤ c1.toInt ∧ c1.toInt < n) ∧ r = c2) ∨ (¬ c1 = c2 ∧ (0 ≤ c1.toInt ∧ c1.toInt < n) ∧ ¬ (0 ≤ c2.toInt ∧ c2.toInt < n) ∧ r = c1) ∨
  (¬ c1 = c2 ∧ ∃ k1 k2, k1 < n ∧ k2 < n ∧ c1 = nI k1 ∧ c2 = nI k2 ∧ ((zPv (th k2) (rk k2) (th k1) (rk k1) ∧ r = c2) ∨ (¬ zPv (th k2) (rk k2) (th k1) (rk k1) ∧ r = c1)))
