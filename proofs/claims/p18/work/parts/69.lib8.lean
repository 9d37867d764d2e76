theorem z_sw4 (w : Int32) : w = nI 0 ∨ w = nI 1 ∨ w = nI 2 ∨ w = nI 3 ∨ (w.toInt < 0 ∨ 3 < w.toInt) := by
  by_cases h : w.toInt < 0 ∨ 3 < w.toInt
  · exact Or.inr (Or.inr (Or.inr (Or.inr h)))
  · obtain ⟨k, hk, rfl⟩ := z_ofIn (c := w) (n := 4) (by omega) (by omega) (by omega)
    match k, hk with
    | 0, _ => exact Or.inl rfl
    | 1, _ => exact Or.inr (Or.inl rfl)
    | 2, _ => exact Or.inr (Or.inr (Or.inl rfl))
    | 3, _ => exact Or.inr (Or.inr (Or.inr (Or.inl rfl)))
    | (j + 4), h => exact absurd h (by omega)
