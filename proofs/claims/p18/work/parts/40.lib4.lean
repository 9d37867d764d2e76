theorem zCn_pos {P : Nat → Prop} {i : Nat} : ∀ {n : Nat}, i < n → P i → 0 < zCn P n := by
  intro n
  induction n with
  | zero => intro h; exact absurd h (Nat.not_lt_zero _)
  | succ n ih =>
    intro h hp
    by_cases e : P n
    · rw [zCn_T e]; omega
    · rw [zCn_F e]
      by_cases h2 : i = n
      · subst h2; exact absurd hp e
      · exact ih (by omega) hp
theorem zCo_12 {m : Nat → Nat → Nat} : ∀ {n : Nat}, (∀ k, k < n → m 2 k + m 4 k ≤ 12) → zCo m n ≤ 12 := by
  intro n
  induction n with
  | zero => intro _; exact Nat.zero_le _
  | succ n ih =>
    intro h
    have h1 := ih (fun k hk => h k (by omega))
    have h2 := h n (by omega)
    by_cases e : zCo m n < m 2 n + m 4 n
    · rw [zCo_1 e]; exact h2
    · rw [zCo_0 e]; exact h1
