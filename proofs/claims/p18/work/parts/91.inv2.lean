/-! ===== the tie holds on ===== -/
section ZIJ
variable {n : Nat} {d : Nat → Nat → Nat} {gr gs bg re ce : Nat} {mm : Nat → Nat → Nat} {rg rn ro : Nat}
theorem zDn_congr {m m' : Nat → Nat → Nat} {n n' k : Nat} (h5 : m' 5 k = m 5 k) (h3 : m' 3 k = m 3 k) (hE : zEn m' (m' 6 k) n' = zEn m (m 6 k) n) : zDn m' n' k = zDn m n k := by
  unfold zDn
  rw [h5, h3, hE]
theorem zI_init : zI 0 d 1 0 0 0 0 (fun _ _ => 0) 0 0 0 :=
  ⟨⟨by omega, by omega, by omega⟩, ⟨rfl, rfl, rfl, rfl⟩, ⟨by omega, by omega, by omega⟩, fun _ _ => Nat.zero_le _, fun k hk => absurd hk (Nat.not_lt_zero _), fun g hg => absurd hg (by omega), ⟨by omega, by omega, fun h => by omega, by omega, by omega, fun _ x hx => absurd hx (Nat.not_lt_zero _)⟩⟩
theorem zI_clear (h : zI n d gr gs bg re ce mm rg rn ro) {d2 : Nat → Nat → Nat} : zI 0 d2 1 0 0 0 0 (zmCl mm) 0 rn ro := by
  obtain ⟨⟨h1, h2, h3⟩, ⟨e1, e2, e3, e4⟩, ⟨l1, l2, l3⟩, hm, hc, hg, ⟨r1, r2, r3, r4, r5, r6⟩⟩ := h
  have z0 : zmCl mm 0 0 = 0 := va_up_self _ _ _
  have z1 : zmCl mm 1 0 = 0 := va_up_self _ _ _
  refine ⟨⟨by omega, by omega, by omega⟩, ⟨z0.symm, z1.symm, ?_, rfl⟩, ⟨by omega, by omega, by omega⟩, fun a k => ?_, fun k hk => absurd hk (Nat.not_lt_zero _), fun g hg => absurd hg (by omega), ⟨by omega, by omega, fun h => by omega, r4, r5, fun h => by omega⟩⟩
  · show 0 = zmCl mm 0 (1 - 1) + zmCl mm 1 (1 - 1)
    rw [show 1 - 1 = 0 from rfl, z0, z1]
  · match a with
    | 0 =>
      show va_up (mm 0) 0 0 k ≤ 1000
      by_cases p : k = 0
      · subst p; rw [va_up_self]; omega
      · rw [va_up_ne _ _ p]; exact hm _ _
    | 1 =>
      show va_up (mm 1) 0 0 k ≤ 1000
      by_cases p : k = 0
      · subst p; rw [va_up_self]; omega
      · rw [va_up_ne _ _ p]; exact hm _ _
    | (a + 2) => exact hm (a + 2) k
theorem zI_group (h : zI n d gr gs bg re ce mm rg rn ro) (h8 : ¬ gr = 8) : zI n d (gr + 1) re 0 re ce (zmGr mm n gr) rg rn ro := by
  have hz := h
  obtain ⟨⟨h1, h2, h3⟩, ⟨e1, e2, e3, e4⟩, ⟨l1, l2, l3⟩, hm, hc, hg, ⟨r1, r2, r3, r4, r5, r6⟩⟩ := h
  have z0 : zmGr mm n gr 0 gr = re := by rw [e3]; exact va_up_self _ _ _
  have z1 : zmGr mm n gr 1 gr = 0 := va_up_self _ _ _
  have n0 : ∀ g, g ≠ gr → zmGr mm n gr 0 g = mm 0 g := fun g p => va_up_ne _ _ p
  have n1 : ∀ g, g ≠ gr → zmGr mm n gr 1 g = mm 1 g := fun g p => va_up_ne _ _ p
  have hE : ∀ g, g < gr → zEn (zmGr mm n gr) g n = zEn mm g n := fun g p => zEn_congr (by rw [n0 g (by omega), n1 g (by omega)]) n (fun k _ => ⟨rfl, rfl, rfl⟩)
  have hEg : zEn (zmGr mm n gr) gr n = re := by
    rw [zEn_none n (fun k hk => ?_), z0, z1, Nat.add_zero]
    show ¬ mm 6 k = gr
    obtain ⟨-, -, -, -, c1, -⟩ := hc k hk
    omega
  refine ⟨⟨by omega, by omega, h3⟩, ⟨?_, ?_, ?_, ?_⟩, ⟨by omega, l2, l3⟩, fun a k => ?_, fun k hk => ?_, fun g p => ?_, ⟨by omega, ?_, fun q => absurd q (by omega), r4, r5, fun q => absurd q (by omega)⟩⟩
  · rw [Nat.add_sub_cancel, z0]
  · rw [Nat.add_sub_cancel, z1]
  · rw [Nat.add_sub_cancel, hEg]
  · rw [e4]; exact (zCo_congr (m := mm) (m' := zmGr mm n gr) n (fun k _ => ⟨rfl, rfl⟩)).symm
  · match a with
    | 0 =>
      by_cases p : k = gr
      · subst p; rw [z0]; omega
      · rw [n0 k p]; exact hm _ _
    | 1 =>
      by_cases p : k = gr
      · subst p; rw [z1]; omega
      · rw [n1 k p]; exact hm _ _
    | (a + 2) => exact hm (a + 2) k
  · obtain ⟨qq, q6, q7, qx, c1, c2, c3, c4, c5⟩ := hc k hk
    refine ⟨qq, q6, ?_, qx, Nat.lt_succ_of_lt c1, c2, c3, ?_, ?_⟩
    · rw [q7]; exact (zDn_congr (m := mm) (m' := zmGr mm n gr) rfl rfl (hE (mm 6 k) c1)).symm
    · show zmGr mm n gr 0 (mm 6 k) ≤ mm 3 k
      rw [n0 _ (by omega)]; exact c4
    · show mm 3 k < zmGr mm n gr 0 (mm 6 k) + zmGr mm n gr 1 (mm 6 k)
      rw [n0 _ (by omega), n1 _ (by omega)]; exact c5
  · rw [Nat.add_sub_cancel] at p
    rw [hE g p]
    by_cases q : g = gr - 1
    · rw [q, e3]; exact Nat.le_refl _
    · have := hg g (by omega)
      omega
  · constructor
    · intro q; omega
    · intro q; exact absurd rfl q
theorem zI_row (h : zI n d gr gs bg re ce mm rg rn ro) (h11 : ¬ 11 < gs + bg) {r2 : Nat} (hr2 : r2 = (if re < gs + bg + 1 then gs + bg + 1 else re)) : zI n (zGw d n gs r2) gr gs (bg + 1) r2 ce (zmRw mm gr) gr (gs + bg) 0 := by
  have hz := h
  obtain ⟨⟨h1, h2, h3⟩, ⟨e1, e2, e3, e4⟩, ⟨l1, l2, l3⟩, hm, hc, hg, ⟨r1, r2', r3, r4, r5, r6⟩⟩ := h
  have z1 : zmRw mm gr 1 (gr - 1) = bg + 1 := by rw [e2]; exact va_up_self _ _ _
  have n1 : ∀ g, g ≠ gr - 1 → zmRw mm gr 1 g = mm 1 g := fun g p => va_up_ne _ _ p
  have hE : ∀ g, g ≠ gr - 1 → zEn (zmRw mm gr) g n = zEn mm g n := fun g p => zEn_congr (by rw [n1 g p]; rfl) n (fun k _ => ⟨rfl, rfl, rfl⟩)
  have hEg : zEn (zmRw mm gr) (gr - 1) n = r2 := by
    rw [zEn_up (m := mm) (m' := zmRw mm gr) (g := gr - 1) (by rw [z1, e2]; rfl) n (fun k _ => ⟨rfl, rfl, rfl⟩), hr2, ← e3, ← e1, ← e2]
  have hr3 : re ≤ r2 ∧ gs + bg + 1 ≤ r2 ∧ r2 ≤ 12 := by rw [hr2]; split <;> omega
  refine ⟨⟨h1, h2, h3⟩, ⟨e1, z1.symm, hEg.symm, ?_⟩, ⟨by omega, by omega, l3⟩, fun a k => ?_, fun k hk => ?_, fun g p => ?_, ⟨Nat.le_refl _, by omega, fun _ => by omega, by omega, by omega, fun _ x hx => absurd hx (Nat.not_lt_zero _)⟩⟩
  · rw [e4]; exact (zCo_congr (m := mm) (m' := zmRw mm gr) n (fun k _ => ⟨rfl, rfl⟩)).symm
  · match a with
    | 0 => exact hm 0 k
    | 1 =>
      by_cases p : k = gr - 1
      · subst p; rw [z1]; omega
      · rw [n1 k p]; exact hm _ _
    | (a + 2) => exact hm (a + 2) k
  · have en := zI_end hz hk
    have bs := zEn_base (m := mm) (g := mm 6 k) n
    obtain ⟨⟨q0, q1, q2, q3, q4, q5, q8, q9⟩, q6, q7, qx, c1, c2, c3, c4, c5⟩ := hc k hk
    have dn : ∀ j, j ≠ 7 → zGw d n gs r2 j k = d j k := fun j p => zGw_n (fun q => p q.1)
    refine ⟨⟨?_, ?_, ?_, ?_, ?_, ?_, ?_, ?_⟩, ?_, ?_, ?_, c1, c2, c3, c4, ?_⟩
    · rw [dn 0 (by decide)]; exact q0
    · rw [dn 1 (by decide)]; exact q1
    · rw [dn 2 (by decide)]; exact q2
    · rw [dn 3 (by decide)]; exact q3
    · rw [dn 4 (by decide)]; exact q4
    · rw [dn 5 (by decide)]; exact q5
    · rw [dn 8 (by decide)]; exact q8
    · rw [dn 9 (by decide)]; exact q9
    · rw [dn 6 (by decide)]; exact q6
    · by_cases p : 0 < mm 5 k
      · rw [zGw_n (fun q => by have := q.2.2.1; rw [q6, if_neg (by omega)] at this; exact this rfl), q7, zDn_T p]
        exact (zDn_T (m := zmRw mm gr) p).symm
      · have g6 : d 6 k = 1 := by rw [q6, if_pos (by omega)]
        have hd3 : zDn (zmRw mm gr) n k = zEn (zmRw mm gr) (mm 6 k) n - mm 3 k := zDn_F (m := zmRw mm gr) p
        rw [hd3]
        by_cases g9 : mm 6 k = gr - 1
        · rw [zGw_7 ⟨hk, by omega, by rw [q1]; rw [g9] at c4; omega⟩, q1, g9, hEg]
        · have := hg (mm 6 k) (by omega)
          rw [zGw_n (fun q => by have := q.2.2.2; rw [q1] at this; omega), q7, zDn_F p, hE _ g9]
    · intro j hj; rw [dn j (by omega)]; exact qx j hj
    · show mm 3 k < mm 0 (mm 6 k) + zmRw mm gr 1 (mm 6 k)
      by_cases p : mm 6 k = gr - 1
      · rw [p, z1]; rw [p] at c5; omega
      · rw [n1 _ p]; exact c5
  · rw [hE g (by omega)]; exact hg g p
end ZIJ
