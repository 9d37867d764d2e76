theorem z_ynI {r : Int32} {P Q : Prop} (h : z_yn r P) (e : P ↔ Q) : z_yn r Q := by
  rcases h with ⟨a, b⟩ | ⟨a, b⟩
  · exact Or.inl ⟨a, e.mp b⟩
  · exact Or.inr ⟨a, fun q => b (e.mpr q)⟩
/-- the line x is one of b, and none of the first n has it -/
def zPe (b n : Nat) (f : Nat → Nat) (x : Nat) : Prop := x < b ∧ ∀ k, k < n → ¬ f k = x
theorem zPe_0 {b x : Nat} {f : Nat → Nat} : x < b ↔ zPe b 0 f x := ⟨fun h => ⟨h, fun k hk => absurd hk (Nat.not_lt_zero _)⟩, fun h => h.1⟩
theorem zPe_1 {b n x : Nat} {f : Nat → Nat} (h : zPe b n f x) (h1 : ¬ f n = x) : zPe b (n + 1) f x := ⟨h.1, lt_s h.2 h1⟩
theorem zPe_F {b n x : Nat} {f : Nat → Nat} (h : ¬ zPe b n f x) : ¬ zPe b (n + 1) f x := fun q => h ⟨q.1, fun k hk => q.2 k (by omega)⟩
theorem zPe_E {b n x : Nat} {f : Nat → Nat} (h : f n = x) : ¬ zPe b (n + 1) f x := fun q => q.2 n (by omega) h
theorem zFst_or {n : Nat} {P : Nat → Prop} {r : Int32} (h : zFst n P r) : r = -1 ∨ ∃ k, k < n ∧ r = nI k := by
  rcases h with ⟨h, -⟩ | ⟨k, hk, h, -⟩
  · exact Or.inl h
  · exact Or.inr ⟨k, hk, h⟩
/-! what the reference's writers leave -/
def zmGr (m : Nat → Nat → Nat) (n g : Nat) : Nat → Nat → Nat := fun a => match a with
  | 0 => va_up (m 0) g (zEn m (g - 1) n)
  | 1 => va_up (m 1) g 0
  | a => m a
def zmRw (m : Nat → Nat → Nat) (g : Nat) : Nat → Nat → Nat := fun a => match a with
  | 1 => va_up (m 1) (g - 1) (m 1 (g - 1) + 1)
  | a => m a
def zmCl (m : Nat → Nat → Nat) : Nat → Nat → Nat := fun a => match a with
  | 0 => va_up (m 0) 0 0
  | 1 => va_up (m 1) 0 0
  | a => m a
