/-- the slot x, y lies in the cell l, c, t, r -/
def zTk (l c t r : Nat) (x y : Int32) : Prop := ((l : Int) ≤ x.toInt ∧ x.toInt < l + c) ∧ ((t : Int) ≤ y.toInt ∧ y.toInt < t + r)
abbrev zTd (d : Nat → Nat → Nat) (k : Nat) (x y : Int32) : Prop := zTk (d 0 k) (d 2 k) (d 1 k) (d 7 k) x y
/-- the first of n for which P holds, or -1 -/
def zFst (n : Nat) (P : Nat → Prop) (r : Int32) : Prop := (r = -1 ∧ ∀ k, k < n → ¬ P k) ∨ ∃ k, k < n ∧ r = nI k ∧ P k ∧ ∀ j, j < k → ¬ P j
theorem zFst_eq {n : Nat} {P : Nat → Prop} {r q : Int32} (h1 : zFst n P r) (h2 : zFst n P q) : r = q := by
  rcases h1 with ⟨rfl, a⟩ | ⟨k, hk, rfl, hp, hf⟩ <;> rcases h2 with ⟨rfl, b⟩ | ⟨j, hj, rfl, hq, hg⟩
  · rfl
  · exact absurd hq (a j hj)
  · exact absurd hp (b k hk)
  · rcases Nat.lt_trichotomy k j with h | h | h
    · exact absurd hp (hg k h)
    · rw [h]
    · exact absurd hq (hf j h)
theorem z_tk1 {l c t r : Nat} {x y : Int32} (h : ((l : Int) ≤ x.toInt ∧ x.toInt < l + c) ∧ ((t : Int) ≤ y.toInt ∧ y.toInt < t + r)) : z_yn 1 (zTk l c t r x y) := z_y1 h
theorem z_tk0 {l c t r : Nat} {x y : Int32} (h : ¬ (((l : Int) ≤ x.toInt ∧ x.toInt < l + c) ∧ ((t : Int) ≤ y.toInt ∧ y.toInt < t + r))) : z_yn 0 (zTk l c t r x y) := z_y0 h
/-- how many of the first n are such -/
def zCnt (P : Nat → Bool) : Nat → Nat
  | 0 => 0
  | n + 1 => zCnt P n + (if P n then 1 else 0)
/-- the sum of the first n -/
def zSum (f : Nat → Nat) : Nat → Nat
  | 0 => 0
  | n + 1 => zSum f n + f n
theorem zSum_le {f : Nat → Nat} {b : Nat} : ∀ n, (∀ k, k < n → f k ≤ b) → zSum f n ≤ n * b := by
  intro n
  induction n with
  | zero => intro _; simp [zSum]
  | succ n ih =>
    intro h
    have h1 := ih (fun k hk => h k (by omega))
    have h2 := h n (by omega)
    rw [zSum, Nat.add_mul, Nat.one_mul]
    omega
