/-! ===== what the class answers is what the reference answers ===== -/
theorem zFst_iff {n : Nat} {P Q : Nat → Prop} {r : Int32} (h : zFst n P r) (e : ∀ k, k < n → (P k ↔ Q k)) : zFst n Q r := by
  rcases h with ⟨h1, h2⟩ | ⟨k, h1, h2, h3, h4⟩
  · exact Or.inl ⟨h1, fun k hk q => h2 k hk ((e k hk).mpr q)⟩
  · exact Or.inr ⟨k, h1, h2, (e k h1).mp h3, fun j hj q => h4 j hj ((e j (by omega)).mpr q)⟩
theorem zCn_congr {P Q : Nat → Prop} : ∀ n, (∀ k, k < n → (P k ↔ Q k)) → zCn P n = zCn Q n := by
  intro n
  induction n with
  | zero => intro _; rfl
  | succ n ih =>
    intro h
    have h1 := ih (fun k hk => h k (by omega))
    by_cases p : P n
    · rw [zCn_T p, zCn_T ((h n (by omega)).mp p), h1]
    · rw [zCn_F p, zCn_F (fun q => p ((h n (by omega)).mpr q)), h1]
theorem zCn_zero {P : Nat → Prop} : ∀ n, (∀ k, k < n → ¬ P k) → zCn P n = 0 := by
  intro n
  induction n with
  | zero => intro _; rfl
  | succ n ih =>
    intro h
    rw [zCn_F (h n (by omega))]
    exact ih (fun k hk => h k (by omega))
theorem zCn_add {P : Nat → Prop} {a : Nat} : ∀ b, zCn P (a + b) = zCn P a + zCn (fun i => P (a + i)) b := by
  intro b
  induction b with
  | zero => rfl
  | succ b ih =>
    by_cases p : P (a + b)
    · rw [← Nat.add_assoc, zCn_T p, zCn_T (P := fun i => P (a + i)) p, ih]; omega
    · rw [← Nat.add_assoc, zCn_F p, zCn_F (P := fun i => P (a + i)) p, ih]
theorem zCn_cut {P : Nat → Prop} {c : Nat} {m : Nat} (hc : c ≤ m) (h : ∀ x, c ≤ x → x < m → ¬ P x) : zCn P m = zCn P c := by
  have e : m = c + (m - c) := by omega
  rw [e, zCn_add, zCn_zero (m - c) (fun k hk => h (c + k) (by omega) (by omega)), Nat.add_zero]
theorem zSum_congr {f g : Nat → Nat} : ∀ n, (∀ k, k < n → f k = g k) → zSum f n = zSum g n := by
  intro n
  induction n with
  | zero => intro _; rfl
  | succ n ih =>
    intro h
    show zSum f n + f n = zSum g n + g n
    rw [ih (fun k hk => h k (by omega)), h n (by omega)]
theorem zSum_cut {f : Nat → Nat} {c : Nat} : ∀ m, c ≤ m → (∀ x, c ≤ x → x < m → f x = 0) → zSum f m = zSum f c := by
  intro m
  induction m with
  | zero => intro hc _; rw [show c = 0 by omega]
  | succ m ih =>
    intro hc h
    by_cases e : c = m + 1
    · rw [e]
    · show zSum f m + f m = _
      rw [ih (by omega) (fun x h1 h2 => h x h1 (by omega)), h m (by omega) (by omega), Nat.add_zero]
/-- two counts, either first -/
theorem zSum_swap {R : Nat → Nat → Prop} {n : Nat} : ∀ N, zSum (fun p => zCn (fun k => R p k) n) N = zSum (fun k => zCn (fun p => R p k) N) n := by
  intro N
  induction N with
  | zero =>
    show 0 = zSum (fun k => 0) n
    clear R
    induction n with
    | zero => rfl
    | succ n ih => show 0 = zSum (fun k => 0) n + 0; rw [← ih]
  | succ N ih =>
    show zSum (fun p => zCn (fun k => R p k) n) N + zCn (fun k => R N k) n = _
    rw [ih]
    clear ih
    induction n with
    | zero => rfl
    | succ n ih =>
      show zSum (fun k => zCn (fun p => R p k) N) n + zCn (fun p => R p n) N + zCn (fun k => R N k) (n + 1) = zSum (fun k => zCn (fun p => R p k) (N + 1)) n + zCn (fun p => R p n) (N + 1)
      rw [← ih]
      by_cases p : R N n
      · rw [zCn_T (P := fun k => R N k) p, zCn_T (P := fun p => R p n) p]; omega
      · rw [zCn_F (P := fun k => R N k) p, zCn_F (P := fun p => R p n) p]; omega
/-- slots by rows -/
theorem zCn_rows {R : Nat → Nat → Prop} : ∀ m, zCn (fun p => R (p % 12) (p / 12)) (12 * m) = zSum (fun y => zCn (fun x => R x y) 12) m := by
  intro m
  induction m with
  | zero => rfl
  | succ m ih =>
    rw [Nat.mul_add, Nat.mul_one, zCn_add, ih]
    show _ = zSum (fun y => zCn (fun x => R x y) 12) m + zCn (fun x => R x m) 12
    congr 1
    refine zCn_congr 12 (fun i hi => ?_)
    rw [show (12 * m + i) % 12 = i by omega, show (12 * m + i) / 12 = m by omega]
theorem zCn_int {l c : Nat} : ∀ m, zCn (fun x => l ≤ x ∧ x < l + c) m = (if m ≤ l then 0 else if m ≤ l + c then m - l else c) := by
  intro m
  induction m with
  | zero => rw [if_pos (by omega)]; rfl
  | succ m ih =>
    by_cases p : l ≤ m ∧ m < l + c
    · rw [zCn_T (P := fun x => l ≤ x ∧ x < l + c) p, ih]
      repeat' split
      all_goals omega
    · rw [zCn_F (P := fun x => l ≤ x ∧ x < l + c) p, ih]
      repeat' split
      all_goals omega
theorem zSum_mul {P : Nat → Prop} {Q : Prop} {c : Nat} : ∀ m, zSum (fun y => zCn (fun x => Q ∧ P y) 0) m = 0 := by
  intro m
  induction m with
  | zero => rfl
  | succ m ih => show zSum _ m + 0 = 0; rw [ih]
/-- the slots of a rectangle -/
theorem zRect {l c t r : Nat} (hc : l + c ≤ 12) (hr : t + r ≤ 12) : zCn (fun p => (l ≤ p % 12 ∧ p % 12 < l + c) ∧ (t ≤ p / 12 ∧ p / 12 < t + r)) 144 = c * r := by
  have h1 := zCn_rows (R := fun x y => (l ≤ x ∧ x < l + c) ∧ (t ≤ y ∧ y < t + r)) 12
  rw [show 12 * 12 = 144 from rfl] at h1
  rw [h1]
  have row : ∀ y, zCn (fun x => (l ≤ x ∧ x < l + c) ∧ (t ≤ y ∧ y < t + r)) 12 = if t ≤ y ∧ y < t + r then c else 0 := by
    intro y
    by_cases p : t ≤ y ∧ y < t + r
    · rw [if_pos p, zCn_congr (Q := fun x => l ≤ x ∧ x < l + c) 12 (fun k _ => ⟨fun q => q.1, fun q => ⟨q, p⟩⟩), zCn_int]
      repeat' split
      all_goals omega
    · rw [if_neg p]
      exact zCn_zero 12 (fun k _ q => p q.2)
  have sum : ∀ m, zSum (fun y => zCn (fun x => (l ≤ x ∧ x < l + c) ∧ (t ≤ y ∧ y < t + r)) 12) m = c * (if m ≤ t then 0 else if m ≤ t + r then m - t else r) := by
    intro m
    induction m with
    | zero => rw [if_pos (by omega), Nat.mul_zero]; rfl
    | succ m ih =>
      show zSum _ m + zCn (fun x => (l ≤ x ∧ x < l + c) ∧ (t ≤ m ∧ m < t + r)) 12 = _
      rw [ih, row m]
      by_cases p : t ≤ m ∧ m < t + r
      · rw [if_pos p]
        have e : (if m + 1 ≤ t then 0 else if m + 1 ≤ t + r then m + 1 - t else r) = (if m ≤ t then 0 else if m ≤ t + r then m - t else r) + 1 := by
          repeat' split
          all_goals omega
        rw [e, Nat.mul_add, Nat.mul_one]
      · rw [if_neg p, Nat.add_zero]
        congr 1
        repeat' split
        all_goals omega
  rw [sum 12]
  congr 1
  repeat' split
  all_goals omega
theorem zOv_sum {h : Nat → Nat} : ∀ N, zOv h N + zCn (fun p => 0 < h p) N = zSum h N := by
  intro N
  induction N with
  | zero => rfl
  | succ N ih =>
    show zOv h N + (h N - 1) + zCn (fun p => 0 < h p) (N + 1) = zSum h N + h N
    by_cases p : 0 < h N
    · rw [zCn_T (P := fun p => 0 < h p) p]; omega
    · rw [zCn_F (P := fun p => 0 < h p) p]; omega
section ZCM
variable {n : Nat} {d : Nat → Nat → Nat} {gr gs bg re ce : Nat} {mm : Nat → Nat → Nat} {rg rn ro : Nat}
theorem zI_tk (h : zI n d gr gs bg re ce mm rg rn ro) {k : Nat} (hk : k < n) {x y : Int32} : zTd d k x y ↔ zMt mm n x y k := by
  obtain ⟨⟨q0, q1, q2, -⟩, -, q7, -⟩ := h.2.2.2.2.1 k hk
  show zTk (d 0 k) (d 2 k) (d 1 k) (d 7 k) x y ↔ zTk (mm 2 k) (mm 4 k) (mm 3 k) (zDn mm n k) x y
  rw [q0, q1, q2, q7]
theorem zL_slot (h : zI n d gr gs bg re ce mm rg rn ro) {x y r q : Int32} (h1 : zFst n (fun k => zTd d k x y) r) (h2 : zFst n (zMt mm n x y) q) : r = q := zFst_eq (zFst_iff h1 (fun _ hk => zI_tk h hk)) h2
theorem zL_span (h : zI n d gr gs bg re ce mm rg rn ro) {k r q : Int32} (h1 : (¬ (0 ≤ k.toInt ∧ k.toInt < n) ∧ r = -1) ∨ ∃ k0, k0 < n ∧ k = nI k0 ∧ r = nI (((d 0 k0 + 100 * d 1 k0) + 10000 * d 2 k0) + 1000000 * d 7 k0)) (h2 : (¬ (0 ≤ k.toInt ∧ k.toInt < n) ∧ q = -1) ∨ ∃ k0, k0 < n ∧ k = nI k0 ∧ q = nI (((mm 2 k0 + 100 * mm 3 k0) + 10000 * mm 4 k0) + 1000000 * zDn mm n k0)) : r = q := by
  have hn := h.1.2.2
  rcases h1 with ⟨a, rfl⟩ | ⟨k0, a, rfl, rfl⟩
  · rcases h2 with ⟨b, rfl⟩ | ⟨k0, b, rfl, rfl⟩
    · rfl
    · rw [nI_toInt (by omega)] at a
      exact absurd (by omega) a
  · rcases h2 with ⟨b, rfl⟩ | ⟨k1, b, e, rfl⟩
    · rw [nI_toInt (by omega)] at b
      exact absurd (by omega) b
    · have e := (nI_eq (by omega) (by omega)).mp e
      subst e
      obtain ⟨⟨q0, q1, q2, -⟩, -, q7, -⟩ := h.2.2.2.2.1 k0 a
      rw [q0, q1, q2, q7]
theorem zDr_eq {th rk th' rk' : Nat → Nat} {c1 c2 r q : Int32} (hn : n ≤ 40) (e : ∀ k, k < n → th k = th' k ∧ rk k = rk' k) (h1 : zDr n th rk c1 c2 r) (h2 : zDr n th' rk' c1 c2 q) : r = q := by
  have inn : ∀ k, k < n → (0 ≤ (nI k).toInt ∧ (nI k).toInt < n) := fun k hk => by rw [nI_toInt (by omega)]; omega
  rcases h1 with ⟨a, rfl⟩ | ⟨a, b, rfl⟩ | ⟨a, b, b2, rfl⟩ | ⟨a, k1, k2, i1, i2, rfl, rfl, b⟩
  · rcases h2 with ⟨a', rfl⟩ | ⟨a', -⟩ | ⟨a', -⟩ | ⟨a', -⟩
    · rfl
    · exact absurd a a'
    · exact absurd a a'
    · exact absurd a a'
  · rcases h2 with ⟨a', -⟩ | ⟨a', b', rfl⟩ | ⟨a', b', -⟩ | ⟨a', k1, k2, i1, i2, rfl, -⟩
    · exact absurd a' a
    · rfl
    · exact absurd b' b
    · exact absurd (inn k1 i1) b
  · rcases h2 with ⟨a', -⟩ | ⟨a', b', -⟩ | ⟨a', b', b2', rfl⟩ | ⟨a', k1, k2, i1, i2, -, rfl, -⟩
    · exact absurd a' a
    · exact absurd b b'
    · rfl
    · exact absurd (inn k2 i2) b2
  · rcases h2 with ⟨a', -⟩ | ⟨a', b', -⟩ | ⟨a', b', b2', -⟩ | ⟨a', l1, l2, j1, j2, f1, f2, b'⟩
    · exact absurd a' a
    · exact absurd (inn k1 i1) b'
    · exact absurd (inn k2 i2) b2'
    · have f1 := (nI_eq (by omega) (by omega)).mp f1
      have f2 := (nI_eq (by omega) (by omega)).mp f2
      subst f1 f2
      rw [(e k1 i1).1, (e k1 i1).2, (e k2 i2).1, (e k2 i2).2] at b
      rcases b with ⟨b, rfl⟩ | ⟨b, rfl⟩
      · rcases b' with ⟨b', rfl⟩ | ⟨b', -⟩
        · rfl
        · exact absurd b b'
      · rcases b' with ⟨b', -⟩ | ⟨b', rfl⟩
        · exact absurd b' b
        · rfl
theorem zL_edge (h : zI n d gr gs bg re ce mm rg rn ro) {x y x2 y2 r q : Int32}
    (h1 : (¬ ((0 ≤ x.toInt ∧ x.toInt < ce) ∧ (0 ≤ y.toInt ∧ y.toInt < re)) ∧ r = -1) ∨ (((0 ≤ x.toInt ∧ x.toInt < ce) ∧ (0 ≤ y.toInt ∧ y.toInt < re)) ∧ ∃ c1 c2, zFst n (fun k => zTd d k x y) c1 ∧ zFst n (fun k => zTd d k x2 y2) c2 ∧ zDr n (d 8) (d 9) c1 c2 r))
    (h2 : (¬ ((0 ≤ x.toInt ∧ x.toInt < (zCo mm n : Nat)) ∧ (0 ≤ y.toInt ∧ y.toInt < (zEn mm (gr - 1) n : Nat))) ∧ q = -1) ∨ (((0 ≤ x.toInt ∧ x.toInt < (zCo mm n : Nat)) ∧ (0 ≤ y.toInt ∧ y.toInt < (zEn mm (gr - 1) n : Nat))) ∧ ∃ c1 c2, zFst n (zMt mm n x y) c1 ∧ zFst n (zMt mm n x2 y2) c2 ∧ zDr n (mm 10) (mm 11) c1 c2 q)) : r = q := by
  have e4 := h.2.1.2.2.2
  have e3 := h.2.1.2.2.1
  rw [← e3, ← e4] at h2
  rcases h1 with ⟨a, rfl⟩ | ⟨a, c1, c2, u1, u2, u3⟩
  · rcases h2 with ⟨b, rfl⟩ | ⟨b, -⟩
    · rfl
    · exact absurd b a
  · rcases h2 with ⟨b, -⟩ | ⟨b, c1', c2', w1, w2, w3⟩
    · exact absurd a b
    · have f1 := zL_slot h u1 w1
      have f2 := zL_slot h u2 w2
      subst f1 f2
      exact zDr_eq h.1.2.2 (fun k hk => ⟨(h.2.2.2.2.1 k hk).1.2.2.2.2.2.2.1, (h.2.2.2.2.1 k hk).1.2.2.2.2.2.2.2⟩) u3 w3
theorem zL_count {f g : Nat → Nat} {c : Nat} (hc : c ≤ 12) (e : ∀ k, k < n → f k = g k) : zCn (zEc n f) c = zCn (zPe c n g) 12 := by
  rw [zCn_cut (P := zPe c n g) hc (fun x h1 _ q => by have := q.1; omega)]
  refine zCn_congr c (fun x hx => ⟨fun q => ⟨hx, fun k hk z => q ⟨k, hk, (e k hk).trans z⟩⟩, fun q z => ?_⟩)
  obtain ⟨k, hk, z⟩ := z
  exact q.2 k hk ((e k hk).symm.trans z)
theorem zL_empties (h : zI n d gr gs bg re ce mm rg rn ro) : nI (zCn (zEc n (d 0)) ce + 100 * zCn (zEc n (d 1)) re) = nI (zCn (zPe (zCo mm n) n (mm 2)) 12 + 100 * zCn (zPe (zEn mm (gr - 1) n) n (mm 3)) 12) := by
  have e4 := h.2.1.2.2.2
  have e3 := h.2.1.2.2.1
  have l := h.2.2.1
  rw [← e3, ← e4, zL_count l.2.2 (fun k hk => (h.2.2.2.2.1 k hk).1.1), zL_count l.2.1 (fun k hk => (h.2.2.2.2.1 k hk).1.2.1)]
theorem zL_overlaps (h : zI n d gr gs bg re ce mm rg rn ro) : nI (zSum (fun k => d 2 k * d 7 k) n) - nI (zSum (fun y => zCn (fun x => zOwd n d x y) ce) re) = nI (zOv (fun p => zHm mm n (p % 12) (p / 12)) 144) := by
  have l := h.2.2.1
  have hh : ∀ p, p < 144 → zHm mm n (p % 12) (p / 12) = zCn (fun k => zTN d k (p % 12) (p / 12)) n := by
    intro p hp
    refine zCn_congr n (fun k hk => ?_)
    rw [← zI_tk h hk]
    exact zTd_nat (by omega) (by omega)
  have area : zSum (fun p => zHm mm n (p % 12) (p / 12)) 144 = zSum (fun k => d 2 k * d 7 k) n := by
    rw [zSum_congr 144 hh, zSum_swap (R := fun p k => zTN d k (p % 12) (p / 12)) 144]
    refine zSum_congr n (fun k hk => ?_)
    exact zRect (zI_L h k hk) (zI_B h k hk)
  have own : zCn (fun p => 0 < zHm mm n (p % 12) (p / 12)) 144 = zSum (fun y => zCn (fun x => zOwd n d x y) ce) re := by
    have out : ∀ x y, zOwd n d x y → x < ce ∧ y < re := by
      rintro x y ⟨k, hk, z1, z2⟩
      have r1 := zI_R h k hk
      have en := zI_end h hk
      obtain ⟨⟨q0, q1, q2, -⟩, -, q7, -⟩ := h.2.2.2.2.1 k hk
      rw [q1, q7] at z2
      omega
    rw [zCn_congr (Q := fun p => zOwd n d (p % 12) (p / 12)) 144 (fun p hp => ?_)]
    · have r1 := zCn_rows (R := fun x y => zOwd n d x y) 12
      rw [show 12 * 12 = 144 from rfl] at r1
      rw [r1, zSum_cut (c := re) 12 l.2.1 (fun y h1 _ => zCn_zero 12 (fun x _ q => by have := (out x y q).2; omega))]
      refine zSum_congr re (fun y _ => ?_)
      exact zCn_cut l.2.2 (fun x h1 _ q => by have := (out x y q).1; omega)
    · rw [hh p hp]
      constructor
      · intro q
        refine Classical.byContradiction (fun z => ?_)
        rw [zCn_zero n (fun k hk w => z ⟨k, hk, w⟩)] at q
        exact absurd q (Nat.lt_irrefl _)
      · rintro ⟨k, hk, w⟩
        exact zCn_pos hk w
  have s9 := zOv_sum (h := fun p => zHm mm n (p % 12) (p / 12)) 144
  rw [own, area] at s9
  rw [pk_sub (by omega)]
  congr 1
  omega
end ZCM
theorem zL_emp0 {re : Nat} {d : Nat → Nat → Nat} : nI (0 + 100 * re) = nI (zCn (zEc 0 (d 0)) 0 + 100 * zCn (zEc 0 (d 1)) re) := by
  have e : zCn (zEc 0 (d 1)) re = re := by
    have all : ∀ m, zCn (zEc 0 (d 1)) m = m := by
      intro m
      induction m with
      | zero => rfl
      | succ m ih => rw [zCn_T (fun ⟨k, hk, _⟩ => absurd hk (Nat.not_lt_zero _)), ih]
    exact all re
  rw [e]
  rfl
theorem zL_ov0 {re : Nat} {d : Nat → Nat → Nat} : nI 0 - nI 0 = nI (zSum (fun k => d 2 k * d 7 k) 0) - nI (zSum (fun y => zCn (fun x => zOwd 0 d x y) 0) re) := by
  have e : ∀ m, zSum (fun y => zCn (fun x => zOwd 0 d x y) 0) m = 0 := by
    intro m
    induction m with
    | zero => rfl
    | succ m ih =>
      show zSum (fun y => zCn (fun x => zOwd 0 d x y) 0) m + 0 = 0
      rw [ih]
  rw [e]
  rfl
