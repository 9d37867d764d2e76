/-! ===== more of calls side by side ===== -/
section ZIM
variable {n : Nat} {d : Nat → Nat → Nat} {gr gs bg re ce : Nat} {mm : Nat → Nat → Nat} {rg rn ro : Nat}
theorem zL_rowE (h : zI 0 d gr gs bg re ce mm rg rn ro) {r q : Int32} {bg2 re2 rg2 rn2 ro2 : Nat} {m2 : Nat → Nat → Nat}
    (h1 : (11 < gs + bg ∧ r = -1 ∧ bg2 = bg ∧ re2 = re) ∨ (¬ 11 < gs + bg ∧ r = nI (gs + bg) ∧ bg2 = bg + 1 ∧ re2 = (if re < gs + bg + 1 then gs + bg + 1 else re)))
    (h2 : (11 < mm 0 (gr - 1) + mm 1 (gr - 1) ∧ q = -1 ∧ rg2 = rg ∧ rn2 = rn ∧ ro2 = ro ∧ m2 = mm) ∨ (¬ 11 < mm 0 (gr - 1) + mm 1 (gr - 1) ∧ q = nI (mm 0 (gr - 1) + mm 1 (gr - 1)) ∧ rg2 = gr ∧ rn2 = mm 0 (gr - 1) + mm 1 (gr - 1) ∧ ro2 = 0 ∧ m2 = zmRw mm gr)) : r = q ∧ zI 0 d gr gs bg2 re2 ce m2 rg2 rn2 ro2 := by
  refine zL_row (d2 := d) h ?_ h2
  rcases h1 with ⟨a, b, c, e⟩ | ⟨a, b, c, e⟩
  · exact Or.inl ⟨a, b, c, e, rfl⟩
  · exact Or.inr ⟨a, b, c, e, zGw_0.symm⟩
theorem zL_lay {a b f r : Int32} {sp gp fx sp2 gp2 fx2 : Nat} (h : (¬ ((0 ≤ a.toInt ∧ a.toInt ≤ 10000) ∧ (0 ≤ b.toInt ∧ b.toInt ≤ 20)) ∧ r = 0 ∧ sp2 = sp ∧ gp2 = gp ∧ fx2 = fx) ∨ (sp2 ≤ 10000 ∧ gp2 ≤ 20 ∧ a = nI sp2 ∧ b = nI gp2 ∧ f = nI fx2 ∧ r = 1)) (h0 : sp ≤ 10000 ∧ gp ≤ 20) : sp2 ≤ 10000 ∧ gp2 ≤ 20 := by
  rcases h with ⟨-, -, rfl, rfl, -⟩ | ⟨h1, h2, -⟩
  · exact h0
  · exact ⟨h1, h2⟩
theorem zL_layr {a b f f' r q : Int32} {sp gp fx sp2 gp2 fx2 sq gq fq sq2 gq2 fq2 : Nat} (h : (¬ ((0 ≤ a.toInt ∧ a.toInt ≤ 10000) ∧ (0 ≤ b.toInt ∧ b.toInt ≤ 20)) ∧ r = 0 ∧ sp2 = sp ∧ gp2 = gp ∧ fx2 = fx) ∨ (sp2 ≤ 10000 ∧ gp2 ≤ 20 ∧ a = nI sp2 ∧ b = nI gp2 ∧ f = nI fx2 ∧ r = 1))
    (h' : (¬ ((0 ≤ a.toInt ∧ a.toInt ≤ 10000) ∧ (0 ≤ b.toInt ∧ b.toInt ≤ 20)) ∧ q = 0 ∧ sq2 = sq ∧ gq2 = gq ∧ fq2 = fq) ∨ (sq2 ≤ 10000 ∧ gq2 ≤ 20 ∧ a = nI sq2 ∧ b = nI gq2 ∧ f' = nI fq2 ∧ q = 1)) : r = q := by
  have key : ∀ {x y : Nat}, x ≤ 10000 → y ≤ 20 → a = nI x → b = nI y → ((0 ≤ a.toInt ∧ a.toInt ≤ 10000) ∧ (0 ≤ b.toInt ∧ b.toInt ≤ 20)) := by
    intro x y h1 h2 e1 e2
    rw [e1, e2, nI_toInt (by omega), nI_toInt (by omega)]
    omega
  rcases h with ⟨a1, rfl, -⟩ | ⟨b1, b2, b3, b4, -, rfl⟩
  · rcases h' with ⟨a2, rfl, -⟩ | ⟨c1, c2, c3, c4, -, rfl⟩
    · rfl
    · exact absurd (key c1 c2 c3 c4) a1
  · rcases h' with ⟨a2, rfl, -⟩ | ⟨c1, c2, c3, c4, -, rfl⟩
    · exact absurd (key b1 b2 b3 b4) a2
    · rfl
theorem zL_not3 {G B C : Prop} (h : ¬ (¬ G ∨ B ∨ C)) : G ∧ ¬ B ∧ ¬ C := ⟨Classical.byContradiction (fun g => h (Or.inl g)), fun b => h (Or.inr (Or.inl b)), fun c => h (Or.inr (Or.inr c))⟩
end ZIM
