theorem z_ynF {r : Int32} {P : Prop} (h : z_yn r P) (hn : ¬ P) : r = 0 := by
  rcases h with ⟨-, h⟩ | ⟨h, -⟩
  · exact absurd h hn
  · exact h
theorem z_ynT {r : Int32} {P : Prop} (h : z_yn r P) (hp : P) : r = 1 := by
  rcases h with ⟨h, -⟩ | ⟨-, h⟩
  · exact h
  · exact absurd hp h
