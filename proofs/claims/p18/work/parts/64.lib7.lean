/-! ===== my own rows: what putting a cell does to the class ===== -/
/-- a cell is put, or is not -/
def zPc (n gs bg re ce : Nat) (ad : Nat → Nat) (d : Nat → Nat → Nat) (a b c1 d1 e1 : Nat) (r : Int32) (n2 re2 ce2 : Nat) (ad2 : Nat → Nat) (d2 : Nat → Nat → Nat) : Prop :=
  ((bg = 0 ∨ 40 ≤ n) ∧ r = -1 ∧ n2 = n ∧ re2 = re ∧ ce2 = ce ∧ ad2 = ad ∧ d2 = d) ∨
  (¬ (bg = 0 ∨ 40 ≤ n) ∧ ∃ x, zFree (fun x => zOwd n d x (gs + bg - 1)) 0 x ∧
    (((12 < x + a ∨ 12 < gs + bg - 1 + b) ∧ r = -1 ∧ n2 = n ∧ re2 = re ∧ ce2 = ce ∧ ad2 = ad ∧ d2 = d) ∨
     (¬ (12 < x + a ∨ 12 < gs + bg - 1 + b) ∧ r = nI n ∧ n2 = n + 1 ∧ re2 = (if re < gs + bg - 1 + b then gs + bg - 1 + b else re) ∧ ce2 = (if ce < x + a then x + a else ce) ∧ (∃ q, ad2 = va_up ad n q) ∧
       d2 = zGw (zpu d n (zrec x (gs + bg - 1) a c1 d1 e1 (if b = 0 then 1 else 0) b 0 0)) (n + 1) gs re2)))
def zCc (n gs bg re ce : Nat) (ad : Nat → Nat) (d : Nat → Nat → Nat) (a b c1 d1 e1 : Int32) (r : Int32) (n2 re2 ce2 : Nat) (ad2 : Nat → Nat) (d2 : Nat → Nat → Nat) : Prop :=
  (¬ zGood a b c1 d1 e1 ∧ r = -1 ∧ n2 = n ∧ re2 = re ∧ ce2 = ce ∧ ad2 = ad ∧ d2 = d) ∨
  (zGood a b c1 d1 e1 ∧ ∃ av bv cv dv ev, a = nI av ∧ b = nI bv ∧ c1 = nI cv ∧ d1 = nI dv ∧ e1 = nI ev ∧ zPc n gs bg re ce ad d av bv cv dv ev r n2 re2 ce2 ad2 d2)
theorem zpu_top {d : Nat → Nat → Nat} {n re e1 : Nat} {g : Nat → Nat} (ht : ∀ k, k < n → d 1 k ≤ re) (hg : g 1 ≤ e1) : ∀ k, k < n + 1 → zpu d n g 1 k ≤ (if re < e1 then e1 else re) := by
  intro k hk
  by_cases e : k = n
  · subst e; rw [zpu_s]; split <;> omega
  · rw [zpu_n e]
    have := ht k (by omega)
    split <;> omega
theorem zFree_of {n : Nat} {d : Nat → Nat → Nat} {y x : Nat} (h1 : x ≤ 12) (h2 : ∀ j, j < x → zOwd n d j y) (h3 : x < 12 → ¬ zOwd n d x y) : zFree (fun x => zOwd n d x y) 0 x := ⟨Nat.zero_le _, h1, fun j _ h => h2 j h, h3⟩
