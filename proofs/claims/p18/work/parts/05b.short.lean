/-! ===== my own rows: short words for the cells of a world ===== -/
abbrev zob (a k : Nat) (fs : List Value) : Nat × va_E := (a, Sum.inr (k, fs))
abbrev zar (a : Nat) (cA : ClassId) (n : Nat) (f : Nat → Int32) : Nat × va_E := (a, Sum.inl (cA, n, Sum.inl f))
abbrev zrf (a : Nat) (cA : ClassId) (n : Nat) (f : Nat → Option Nat) : Nat × va_E := (a, Sum.inl (cA, n, Sum.inr (Sum.inr (Sum.inr (Sum.inr f)))))
