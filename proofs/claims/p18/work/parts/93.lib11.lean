/-! what a put cell leaves, with bounds of its numbers -/
def zBd (a b c d e : Nat) : Prop := a ≤ 1000 ∧ b ≤ 1000 ∧ c ≤ 1000 ∧ d ≤ 1000 ∧ e ≤ 1000
def zmCf (m : Nat → Nat → Nat) (n rg mg rn ro : Nat) (a b c d e r : Int32) (n2 ro2 : Nat) (m2 : Nat → Nat → Nat) : Prop :=
  (¬ (zGood a b c d e ∧ rg = mg ∧ ¬ n = 40) ∧ r = -1 ∧ n2 = n ∧ ro2 = ro ∧ m2 = m) ∨
  ((zGood a b c d e ∧ rg = mg ∧ ¬ n = 40) ∧ ∃ x a1 b1 c1 d1 e1, zBd a1 b1 c1 d1 e1 ∧ zFree (fun x => ∃ k, k < n ∧ zIt m rg rn x k) ro x ∧ a = nI a1 ∧ b = nI b1 ∧ c = nI c1 ∧ d = nI d1 ∧ e = nI e1 ∧
    (((12 < x + a1 ∨ 12 < rn + b1) ∧ r = -1 ∧ n2 = n ∧ ro2 = ro ∧ m2 = m) ∨ (¬ (12 < x + a1 ∨ 12 < rn + b1) ∧ r = nI n ∧ n2 = n + 1 ∧ ro2 = x + a1 ∧ m2 = zmPt m n x rn a1 b1 (rg - 1) c1 d1 e1)))
def zCf (n gs bg re ce : Nat) (ad : Nat → Nat) (d : Nat → Nat → Nat) (a b c1 d1 e1 : Int32) (r : Int32) (n2 re2 ce2 : Nat) (ad2 : Nat → Nat) (d2 : Nat → Nat → Nat) : Prop :=
  (¬ zGood a b c1 d1 e1 ∧ r = -1 ∧ n2 = n ∧ re2 = re ∧ ce2 = ce ∧ ad2 = ad ∧ d2 = d) ∨
  (zGood a b c1 d1 e1 ∧ ∃ av bv cv dv ev, zBd av bv cv dv ev ∧ a = nI av ∧ b = nI bv ∧ c1 = nI cv ∧ d1 = nI dv ∧ e1 = nI ev ∧ zPc n gs bg re ce ad d av bv cv dv ev r n2 re2 ce2 ad2 d2)
