theorem z_ynI {r : Int32} {P Q : Prop} (h : z_yn r P) (e : P ↔ Q) : z_yn r Q := by
  rcases h with ⟨a, b⟩ | ⟨a, b⟩
  · exact Or.inl ⟨a, e.mp b⟩
  · exact Or.inr ⟨a, fun q => b (e.mpr q)⟩
/-- the line x is one of b, and none of the first n has it -/
def zPe (b n : Nat) (f : Nat → Nat) (x : Nat) : Prop := x < b ∧ ∀ k, k < n → ¬ f k = x
theorem zPe_0 {b x : Nat} {f : Nat → Nat} : x < b ↔ zPe b 0 f x := ⟨fun h => ⟨h, fun k hk => absurd hk (Nat.not_lt_zero _)⟩, fun h => h.1⟩
theorem zPe_1 {b n x : Nat} {f : Nat → Nat} (h : zPe b n f x) (h1 : ¬ f n = x) : zPe b (n + 1) f x := ⟨h.1, lt_s h.2 h1⟩
theorem zPe_F {b n x : Nat} {f : Nat → Nat} (h : ¬ zPe b n f x) : ¬ zPe b (n + 1) f x := fun q => h ⟨q.1, fun k hk => q.2 k (by omega)⟩
theorem zPe_E {b n x : Nat} {f : Nat → Nat} (h : f n = x) : ¬ zPe b (n + 1) f x := fun q => q.2 n (by omega) h
theorem zFst_or {n : Nat} {P : Nat → Prop} {r : Int32} (h : zFst n P r) : r = -1 ∨ ∃ k, k < n ∧ r = nI k := by
  rcases h with ⟨h, -⟩ | ⟨k, hk, h, -⟩
  · exact Or.inl h
  · exact Or.inr ⟨k, hk, h⟩
/-! what the reference's writers leave -/
def zmGr (m : Nat → Nat → Nat) (n g : Nat) : Nat → Nat → Nat := fun a => match a with
  | 0 => va_up (m 0) g (zEn m (g - 1) n)
  | 1 => va_up (m 1) g 0
  | a => m a
def zmRw (m : Nat → Nat → Nat) (g : Nat) : Nat → Nat → Nat := fun a => match a with
  | 1 => va_up (m 1) (g - 1) (m 1 (g - 1) + 1)
  | a => m a
def zmCl (m : Nat → Nat → Nat) : Nat → Nat → Nat := fun a => match a with
  | 0 => va_up (m 0) 0 0
  | 1 => va_up (m 1) 0 0
  | a => m a
def zmPt (m : Nat → Nat → Nat) (n x rn a b g c d e : Nat) : Nat → Nat → Nat := fun i => match i with
  | 2 => va_up (m 2) n x
  | 3 => va_up (m 3) n rn
  | 4 => va_up (m 4) n a
  | 5 => va_up (m 5) n b
  | 6 => va_up (m 6) n g
  | 7 => va_up (m 7) n c
  | 8 => va_up (m 8) n d
  | 9 => va_up (m 9) n e
  | 10 => va_up (m 10) n 0
  | 11 => va_up (m 11) n 0
  | i => m i
def zmBo (m : Nat → Nat → Nat) (k t w : Nat) : Nat → Nat → Nat := fun i => match i with
  | 10 => va_up (m 10) k t
  | 11 => va_up (m 11) k w
  | i => m i
/-- the numbers that a cell may have -/
def zGood (a b c d e : Int32) : Prop := ((1 ≤ a.toInt ∧ a.toInt ≤ 6) ∧ (0 ≤ b.toInt ∧ b.toInt ≤ 6)) ∧ ((0 ≤ c.toInt ∧ c.toInt ≤ d.toInt) ∧ d.toInt ≤ 1000) ∧ (0 ≤ e.toInt ∧ e.toInt ≤ 1000)
/-- the first free column of the row that is open -/
def zFree (T : Nat → Prop) (ro x : Nat) : Prop := ro ≤ x ∧ x ≤ 12 ∧ (∀ j, ro ≤ j → j < x → T j) ∧ (x < 12 → ¬ T x)
/-- what cell answers, and what it leaves, of the reference -/
def zmCe (m : Nat → Nat → Nat) (n rg mg rn ro : Nat) (a b c d e r : Int32) (n2 ro2 : Nat) (m2 : Nat → Nat → Nat) : Prop :=
  (¬ (zGood a b c d e ∧ rg = mg ∧ ¬ n = 40) ∧ r = -1 ∧ n2 = n ∧ ro2 = ro ∧ m2 = m) ∨
  ((zGood a b c d e ∧ rg = mg ∧ ¬ n = 40) ∧ ∃ x a1 b1 c1 d1 e1, zFree (fun x => ∃ k, k < n ∧ zIt m rg rn x k) ro x ∧ a = nI a1 ∧ b = nI b1 ∧ c = nI c1 ∧ d = nI d1 ∧ e = nI e1 ∧
    (((12 < x + a1 ∨ 12 < rn + b1) ∧ r = -1 ∧ n2 = n ∧ ro2 = ro ∧ m2 = m) ∨ (¬ (12 < x + a1 ∨ 12 < rn + b1) ∧ r = nI n ∧ n2 = n + 1 ∧ ro2 = x + a1 ∧ m2 = zmPt m n x rn a1 b1 (rg - 1) c1 d1 e1)))
theorem z_lts {P : Nat → Prop} {ro i : Nat} (h : ∀ j, ro ≤ j → j < i → P j) (hi : P i) : ∀ j, ro ≤ j → j < i + 1 → P j := by
  intro j h1 h2
  by_cases e : j = i
  · subst e; exact hi
  · exact h j h1 (by omega)
theorem z_f01 {f : Nat} (h : f ≤ 1) : nI f = 0 ∨ nI f = 1 := by
  rcases (show f = 0 ∨ f = 1 by omega) with rfl | rfl
  · exact Or.inl rfl
  · exact Or.inr rfl
