set_option maxHeartbeats 4000000 in
set_option maxRecDepth 100000 in
theorem x_MD_fixWidths (l : Launch) (dC : Nat → ClassId) (dI : Nat → Nat → Nat) (h0 : Nat) (b0 : Nat) (b1 : Nat) (b2 : Nat) (b3 : Nat) (b4 : Nat) (b5 : Nat) (b6 : Nat) (b7 : Nat) (b8 : Nat) (b9 : Nat) (b10 : Nat) (b11 : Nat) (b12 : Nat) (b13 : Nat) (b14 : Nat) (b15 : Nat) (b16 : Nat) (b17 : Nat) (kb0 : ClassId) (kb1 : ClassId) (kb2 : ClassId) (kb3 : ClassId) (kb4 : ClassId) (kb5 : ClassId) (kb6 : ClassId) (kb7 : ClassId) (kb8 : ClassId) (kb9 : ClassId) (kb10 : ClassId) (kb11 : ClassId) (mg : Nat) (n : Nat) (rg : Nat) (rn : Nat) (ro : Nat) (sp : Nat) (gp : Nat) (fx : Nat) (mm : Nat → Nat → Nat) (kb14 : ClassId) (kb16 : ClassId) (g2 : Nat → Int32) (g4 : Nat → Int32) (hm : ∀ a k, mm a k ≤ 1000) (hn : n ≤ 40) (hg : 1 ≤ mg ∧ mg ≤ 8 ∧ rg ≤ 8 ∧ rn ≤ 1000 ∧ ro ≤ 1000) (hG : ∀ k, k < n → mm 6 k < 8) (hE : ∀ k, k < n → mm 3 k ≤ zEn mm (mm 6 k) n) (hL : ∀ k, k < n → mm 2 k + mm 4 k ≤ 12 ∧ 1 ≤ mm 4 k) (hs : sp ≤ 10000 ∧ gp ≤ 20) (htile : zTile (mm 3) (mm 2) (mm 4) n) : zw_Mv (S := (Nat → Nat) × (Nat → Int32)) l yMD_fixWidths wMD_fixWidths ({ frames := 2, cells := 0, slots := 0, locals := 42 }) [.ref h0] (dC, dI) vwCl [zob h0 6 [.int (nI mg), .ref b0, .ref b1, .int (nI n), .ref b2, .ref b3, .ref b4, .ref b5, .ref b6, .ref b7, .ref b8, .ref b9, .ref b10, .ref b11, .int (nI rg - nI 1), .int (nI rn), .int (nI ro), .int (nI sp), .int (nI gp), .int (nI fx), .ref b12, .ref b13, .ref b14, .ref b15, .ref b16, .ref b17], zar b0 kb0 8 (fun j => nI (mm 0 j)), zar b1 kb1 8 (fun j => nI (mm 1 j)), zar b2 kb2 40 (fun j => nI (mm 2 j)), zar b3 kb3 40 (fun j => nI (mm 3 j)), zar b4 kb4 40 (fun j => nI (mm 4 j)), zar b5 kb5 40 (fun j => nI (mm 5 j)), zar b6 kb6 40 (fun j => nI (mm 6 j)), zar b7 kb7 40 (fun j => nI (mm 7 j)), zar b8 kb8 40 (fun j => nI (mm 8 j)), zar b9 kb9 40 (fun j => nI (mm 9 j)), zar b10 kb10 40 (fun j => nI (mm 10 j)), zar b11 kb11 40 (fun j => nI (mm 11 j)), zar b14 kb14 12 g2, zar b16 kb16 12 g4] [(kb0, .int), (kb1, .int), (kb2, .int), (kb3, .int), (kb4, .int), (kb5, .int), (kb6, .int), (kb7, .int), (kb8, .int), (kb9, .int), (kb10, .int), (kb11, .int), (kb14, .int), (kb16, .boolean)] (fun _ _ => True) (fun u => match u with | (u2, u4) => u2 = zFw (mm 7) (mm 3) (mm 2) (mm 4) gp n (zCo mm n) (sp - gp * (zCo mm n + 1))) (fun u => match u with | (u2, u4) => [zob h0 6 [.int (nI mg), .ref b0, .ref b1, .int (nI n), .ref b2, .ref b3, .ref b4, .ref b5, .ref b6, .ref b7, .ref b8, .ref b9, .ref b10, .ref b11, .int (nI rg - nI 1), .int (nI rn), .int (nI ro), .int (nI sp), .int (nI gp), .int (nI fx), .ref b12, .ref b13, .ref b14, .ref b15, .ref b16, .ref b17], zar b0 kb0 8 (fun j => nI (mm 0 j)), zar b1 kb1 8 (fun j => nI (mm 1 j)), zar b2 kb2 40 (fun j => nI (mm 2 j)), zar b3 kb3 40 (fun j => nI (mm 3 j)), zar b4 kb4 40 (fun j => nI (mm 4 j)), zar b5 kb5 40 (fun j => nI (mm 5 j)), zar b6 kb6 40 (fun j => nI (mm 6 j)), zar b7 kb7 40 (fun j => nI (mm 7 j)), zar b8 kb8 40 (fun j => nI (mm 8 j)), zar b9 kb9 40 (fun j => nI (mm 9 j)), zar b10 kb10 40 (fun j => nI (mm 10 j)), zar b11 kb11 40 (fun j => nI (mm 11 j)), zar b14 kb14 12 (fun j => nI (u2 j)), zar b16 kb16 12 u4]) (fun u => match u with | (u2, u4) => []) 0 0 := by
  refine zw_headv (cc := cMD_fixWidths) (maxL := 7) (ret := none) (by decide +kernel) rfl (Nat.le_of_ble_eq_true rfl) ?_
  intro p e s m below meth c ls A F hnm hA hP hK hD hS hX hl
  obtain ⟨hx, hb, hml, hr, hlocks, hown, hts⟩ := F
  have hown : s.vm.findClass "SpannedCellsModel" = some m.cls := hown
  have hz : ∀ w9 ∈ zT, w9.before [.ref h0].toArray s = true := fun w9 h => hts w9 (List.mem_cons_of_mem _ h)
  have hl : lv_has ls 7 [(0, .ref h0)] := hl
  refine z_q (fun Q hQ => ?_)
  have hco := zCo_12 (m := mm) (n := n) (fun k hk => (hL k hk).1)
  have hgvc : zGv (mm 3) (mm 2) (mm 4) n ≤ zCo mm n := zGv_le n (fun k hk => zCo_cell hk)
  have hgr : gp * (zCo mm n + 1) ≤ 20 * 13 := Nat.mul_le_mul (by omega) (by omega)
  refine lv_aload_n hx hb dMD_fixWidths_0 rfl (lv_at hl 0 rfl) ?_
  refine vp_callSi (W.runV (As := []) (rest := []) ⟨hx, hb, hml, hown, hz⟩ (f_MD_columns l dC dI h0 b0 b1 b2 b3 b4 b5 b6 b7 b8 b9 b10 b11 b12 b13 b14 b15 b16 b17 kb0 kb1 kb2 kb3 kb4 kb5 kb6 kb7 kb8 kb9 kb10 kb11 mg n _ rn ro sp gp fx _ (hm) (by omega) (hg) (hG) (hE)) (cwV 0 hz (z_gV wd_732 wd_701 wd_702 wd_37 wd_703) rfl rfl rfl (by decide +kernel) ⟨Nat.le_of_ble_eq_true rfl, Nat.le_of_ble_eq_true rfl⟩) (zr_preV hK (hP.sub [0, 1, 2, 3, 4, 5, 6, 7, 8, 9, 10, 11, 12] rfl) (va_recv (q0 := 0) hK hP (q := (RMD, TMD, 26)) rfl rfl) [0, 1, 2, 3, 4, 5, 6, 7, 8, 9, 10, 11] rfl z_true (fun _ _ _ => trivial)) rfl rfl hl.1 rfl (lv_room (Nat.le_of_ble_eq_true rfl)) dMD_fixWidths_1 ⟨Nat.le_of_ble_eq_true rfl, Nat.le_of_ble_eq_true rfl⟩) (fun r1 h_r1 => ?_)
  have h_r1 : r1 = nI (zCo mm n) := h_r1
  subst h_r1
  refine lv_istore_n hx hb dMD_fixWidths_4 rfl hl (Nat.le_of_ble_eq_true rfl) rfl (fun ls hl => ?_)
  have hl : lv_has ls 7 [(1, .int (nI (zCo mm n))), (0, .ref h0)] := hl
  refine lv_iconst (v := nI 0) hx hb dMD_fixWidths_5 (by decide) ?_
  refine lv_istore_n hx hb dMD_fixWidths_6 rfl hl (Nat.le_of_ble_eq_true rfl) rfl (fun ls hl => ?_)
  have hl : lv_has ls 7 [(2, .int (nI 0)), (1, .int (nI (zCo mm n))), (0, .ref h0)] := hl
  refine zl_upW (σ := (Nat → Int32) × (Nat → Int32)) 12 (fun i x9 ls H locs => match x9 with | (fo, fg) => lv_has ls 7 [(2, .int (nI i)), (1, .int (nI (zCo mm n))), (0, .ref h0)] ∧ ((∀ q9, q9 < i → fo q9 = nI (zO q9)) ∧ (∀ q9, q9 < i → fg q9 = zBi 0 q9)) ∧ va_P (dC, dI) vwCl [zob h0 6 [.int (nI mg), .ref b0, .ref b1, .int (nI n), .ref b2, .ref b3, .ref b4, .ref b5, .ref b6, .ref b7, .ref b8, .ref b9, .ref b10, .ref b11, .int (nI rg - nI 1), .int (nI rn), .int (nI ro), .int (nI sp), .int (nI gp), .int (nI fx), .ref b12, .ref b13, .ref b14, .ref b15, .ref b16, .ref b17], zar b0 kb0 8 (fun j => nI (mm 0 j)), zar b1 kb1 8 (fun j => nI (mm 1 j)), zar b2 kb2 40 (fun j => nI (mm 2 j)), zar b3 kb3 40 (fun j => nI (mm 3 j)), zar b4 kb4 40 (fun j => nI (mm 4 j)), zar b5 kb5 40 (fun j => nI (mm 5 j)), zar b6 kb6 40 (fun j => nI (mm 6 j)), zar b7 kb7 40 (fun j => nI (mm 7 j)), zar b8 kb8 40 (fun j => nI (mm 8 j)), zar b9 kb9 40 (fun j => nI (mm 9 j)), zar b10 kb10 40 (fun j => nI (mm 10 j)), zar b11 kb11 40 (fun j => nI (mm 11 j)), zar b14 kb14 12 fo, zar b16 kb16 12 fg] H ∧ va_D A [zob h0 6 [.int (nI mg), .ref b0, .ref b1, .int (nI n), .ref b2, .ref b3, .ref b4, .ref b5, .ref b6, .ref b7, .ref b8, .ref b9, .ref b10, .ref b11, .int (nI rg - nI 1), .int (nI rn), .int (nI ro), .int (nI sp), .int (nI gp), .int (nI fx), .ref b12, .ref b13, .ref b14, .ref b15, .ref b16, .ref b17], zar b0 kb0 8 (fun j => nI (mm 0 j)), zar b1 kb1 8 (fun j => nI (mm 1 j)), zar b2 kb2 40 (fun j => nI (mm 2 j)), zar b3 kb3 40 (fun j => nI (mm 3 j)), zar b4 kb4 40 (fun j => nI (mm 4 j)), zar b5 kb5 40 (fun j => nI (mm 5 j)), zar b6 kb6 40 (fun j => nI (mm 6 j)), zar b7 kb7 40 (fun j => nI (mm 7 j)), zar b8 kb8 40 (fun j => nI (mm 8 j)), zar b9 kb9 40 (fun j => nI (mm 9 j)), zar b10 kb10 40 (fun j => nI (mm 10 j)), zar b11 kb11 40 (fun j => nI (mm 11 j)), zar b14 kb14 12 fo, zar b16 kb16 12 fg] ∧ va_S A s.heap H locs) ?_ ?_ 0 (by decide) (g2, g4) ls s.heap [] ⟨lv_sub hl [0, 1, 2] rfl, ⟨fun q9 h9 => absurd h9 (Nat.not_lt_zero _), fun q9 h9 => absurd h9 (Nat.not_lt_zero _)⟩, hP, hD, hS⟩
  · intro x9 ls H locs hI
    obtain ⟨fo, fg⟩ := x9
    obtain ⟨hl, hxI, hP, hD, hS⟩ := hI
    have hl : lv_has ls 7 [(2, .int (nI 12)), (1, .int (nI (zCo mm n))), (0, .ref h0)] := hl
    have hP : va_P (dC, dI) vwCl [zob h0 6 [.int (nI mg), .ref b0, .ref b1, .int (nI n), .ref b2, .ref b3, .ref b4, .ref b5, .ref b6, .ref b7, .ref b8, .ref b9, .ref b10, .ref b11, .int (nI rg - nI 1), .int (nI rn), .int (nI ro), .int (nI sp), .int (nI gp), .int (nI fx), .ref b12, .ref b13, .ref b14, .ref b15, .ref b16, .ref b17], zar b0 kb0 8 (fun j => nI (mm 0 j)), zar b1 kb1 8 (fun j => nI (mm 1 j)), zar b2 kb2 40 (fun j => nI (mm 2 j)), zar b3 kb3 40 (fun j => nI (mm 3 j)), zar b4 kb4 40 (fun j => nI (mm 4 j)), zar b5 kb5 40 (fun j => nI (mm 5 j)), zar b6 kb6 40 (fun j => nI (mm 6 j)), zar b7 kb7 40 (fun j => nI (mm 7 j)), zar b8 kb8 40 (fun j => nI (mm 8 j)), zar b9 kb9 40 (fun j => nI (mm 9 j)), zar b10 kb10 40 (fun j => nI (mm 10 j)), zar b11 kb11 40 (fun j => nI (mm 11 j)), zar b14 kb14 12 fo, zar b16 kb16 12 fg] H := hP
    have hD : va_D A [zob h0 6 [.int (nI mg), .ref b0, .ref b1, .int (nI n), .ref b2, .ref b3, .ref b4, .ref b5, .ref b6, .ref b7, .ref b8, .ref b9, .ref b10, .ref b11, .int (nI rg - nI 1), .int (nI rn), .int (nI ro), .int (nI sp), .int (nI gp), .int (nI fx), .ref b12, .ref b13, .ref b14, .ref b15, .ref b16, .ref b17], zar b0 kb0 8 (fun j => nI (mm 0 j)), zar b1 kb1 8 (fun j => nI (mm 1 j)), zar b2 kb2 40 (fun j => nI (mm 2 j)), zar b3 kb3 40 (fun j => nI (mm 3 j)), zar b4 kb4 40 (fun j => nI (mm 4 j)), zar b5 kb5 40 (fun j => nI (mm 5 j)), zar b6 kb6 40 (fun j => nI (mm 6 j)), zar b7 kb7 40 (fun j => nI (mm 7 j)), zar b8 kb8 40 (fun j => nI (mm 8 j)), zar b9 kb9 40 (fun j => nI (mm 9 j)), zar b10 kb10 40 (fun j => nI (mm 10 j)), zar b11 kb11 40 (fun j => nI (mm 11 j)), zar b14 kb14 12 fo, zar b16 kb16 12 fg] := hD
    refine lv_iload_n hx hb dMD_fixWidths_7 rfl (lv_at hl 0 rfl) ?_
    refine lv_bipush (v := nI 12) hx hb dMD_fixWidths_8 (by decide) ?_
    refine lv_icmp_ge (tgt := 33) hx hb dMD_fixWidths_10 rfl (fun _ => ?_) (fun h => absurd (by decide) h)
    have hP : va_P (dC, dI) vwCl [zob h0 6 [.int (nI mg), .ref b0, .ref b1, .int (nI n), .ref b2, .ref b3, .ref b4, .ref b5, .ref b6, .ref b7, .ref b8, .ref b9, .ref b10, .ref b11, .int (nI rg - nI 1), .int (nI rn), .int (nI ro), .int (nI sp), .int (nI gp), .int (nI fx), .ref b12, .ref b13, .ref b14, .ref b15, .ref b16, .ref b17], zar b0 kb0 8 (fun j => nI (mm 0 j)), zar b1 kb1 8 (fun j => nI (mm 1 j)), zar b2 kb2 40 (fun j => nI (mm 2 j)), zar b3 kb3 40 (fun j => nI (mm 3 j)), zar b4 kb4 40 (fun j => nI (mm 4 j)), zar b5 kb5 40 (fun j => nI (mm 5 j)), zar b6 kb6 40 (fun j => nI (mm 6 j)), zar b7 kb7 40 (fun j => nI (mm 7 j)), zar b8 kb8 40 (fun j => nI (mm 8 j)), zar b9 kb9 40 (fun j => nI (mm 9 j)), zar b10 kb10 40 (fun j => nI (mm 10 j)), zar b11 kb11 40 (fun j => nI (mm 11 j)), zar b14 kb14 12 (fun j => nI (zO j)), zar b16 kb16 12 fg] H := zP_arr 13 hP rfl (hxI.1)
    have hD : va_D A [zob h0 6 [.int (nI mg), .ref b0, .ref b1, .int (nI n), .ref b2, .ref b3, .ref b4, .ref b5, .ref b6, .ref b7, .ref b8, .ref b9, .ref b10, .ref b11, .int (nI rg - nI 1), .int (nI rn), .int (nI ro), .int (nI sp), .int (nI gp), .int (nI fx), .ref b12, .ref b13, .ref b14, .ref b15, .ref b16, .ref b17], zar b0 kb0 8 (fun j => nI (mm 0 j)), zar b1 kb1 8 (fun j => nI (mm 1 j)), zar b2 kb2 40 (fun j => nI (mm 2 j)), zar b3 kb3 40 (fun j => nI (mm 3 j)), zar b4 kb4 40 (fun j => nI (mm 4 j)), zar b5 kb5 40 (fun j => nI (mm 5 j)), zar b6 kb6 40 (fun j => nI (mm 6 j)), zar b7 kb7 40 (fun j => nI (mm 7 j)), zar b8 kb8 40 (fun j => nI (mm 8 j)), zar b9 kb9 40 (fun j => nI (mm 9 j)), zar b10 kb10 40 (fun j => nI (mm 10 j)), zar b11 kb11 40 (fun j => nI (mm 11 j)), zar b14 kb14 12 (fun j => nI (zO j)), zar b16 kb16 12 fg] := va_D.set (p := 13) hD rfl
    refine lv_iconst (v := nI 0) hx hb dMD_fixWidths_33 (by decide) ?_
    refine lv_istore_n hx hb dMD_fixWidths_34 rfl hl (Nat.le_of_ble_eq_true rfl) rfl (fun ls hl => ?_)
    have hl : lv_has ls 7 [(2, .int (nI 0)), (1, .int (nI (zCo mm n))), (0, .ref h0)] := hl
    refine zl_upW (σ := (Nat → Nat) × (Nat → Int32)) n (fun i x9 ls H locs => match x9 with | (Wd, bo) => lv_has ls 7 [(2, .int (nI i)), (1, .int (nI (zCo mm n))), (0, .ref h0)] ∧ (Wd = zFx (mm 7) (mm 3) (mm 2) (mm 4) gp i ∧ ∀ q, q < 12 → bo q = zBi (zGv (mm 3) (mm 2) (mm 4) i) q) ∧ va_P (dC, dI) vwCl [zob h0 6 [.int (nI mg), .ref b0, .ref b1, .int (nI n), .ref b2, .ref b3, .ref b4, .ref b5, .ref b6, .ref b7, .ref b8, .ref b9, .ref b10, .ref b11, .int (nI rg - nI 1), .int (nI rn), .int (nI ro), .int (nI sp), .int (nI gp), .int (nI fx), .ref b12, .ref b13, .ref b14, .ref b15, .ref b16, .ref b17], zar b0 kb0 8 (fun j => nI (mm 0 j)), zar b1 kb1 8 (fun j => nI (mm 1 j)), zar b2 kb2 40 (fun j => nI (mm 2 j)), zar b3 kb3 40 (fun j => nI (mm 3 j)), zar b4 kb4 40 (fun j => nI (mm 4 j)), zar b5 kb5 40 (fun j => nI (mm 5 j)), zar b6 kb6 40 (fun j => nI (mm 6 j)), zar b7 kb7 40 (fun j => nI (mm 7 j)), zar b8 kb8 40 (fun j => nI (mm 8 j)), zar b9 kb9 40 (fun j => nI (mm 9 j)), zar b10 kb10 40 (fun j => nI (mm 10 j)), zar b11 kb11 40 (fun j => nI (mm 11 j)), zar b14 kb14 12 (fun j => nI (Wd j)), zar b16 kb16 12 bo] H ∧ va_D A [zob h0 6 [.int (nI mg), .ref b0, .ref b1, .int (nI n), .ref b2, .ref b3, .ref b4, .ref b5, .ref b6, .ref b7, .ref b8, .ref b9, .ref b10, .ref b11, .int (nI rg - nI 1), .int (nI rn), .int (nI ro), .int (nI sp), .int (nI gp), .int (nI fx), .ref b12, .ref b13, .ref b14, .ref b15, .ref b16, .ref b17], zar b0 kb0 8 (fun j => nI (mm 0 j)), zar b1 kb1 8 (fun j => nI (mm 1 j)), zar b2 kb2 40 (fun j => nI (mm 2 j)), zar b3 kb3 40 (fun j => nI (mm 3 j)), zar b4 kb4 40 (fun j => nI (mm 4 j)), zar b5 kb5 40 (fun j => nI (mm 5 j)), zar b6 kb6 40 (fun j => nI (mm 6 j)), zar b7 kb7 40 (fun j => nI (mm 7 j)), zar b8 kb8 40 (fun j => nI (mm 8 j)), zar b9 kb9 40 (fun j => nI (mm 9 j)), zar b10 kb10 40 (fun j => nI (mm 10 j)), zar b11 kb11 40 (fun j => nI (mm 11 j)), zar b14 kb14 12 (fun j => nI (Wd j)), zar b16 kb16 12 bo] ∧ va_S A s.heap H locs) ?_ ?_ 0 (Nat.zero_le _) (zO, fg) ls H locs ⟨lv_sub hl [0, 1, 2] rfl, ⟨rfl, hxI.2⟩, hP, hD, hS⟩
    · intro x9 ls H locs hI
      obtain ⟨Wd, bo⟩ := x9
      obtain ⟨hl, hzI, hP, hD, hS⟩ := hI
      have hl : lv_has ls 7 [(2, .int (nI n)), (1, .int (nI (zCo mm n))), (0, .ref h0)] := hl
      have hP : va_P (dC, dI) vwCl [zob h0 6 [.int (nI mg), .ref b0, .ref b1, .int (nI n), .ref b2, .ref b3, .ref b4, .ref b5, .ref b6, .ref b7, .ref b8, .ref b9, .ref b10, .ref b11, .int (nI rg - nI 1), .int (nI rn), .int (nI ro), .int (nI sp), .int (nI gp), .int (nI fx), .ref b12, .ref b13, .ref b14, .ref b15, .ref b16, .ref b17], zar b0 kb0 8 (fun j => nI (mm 0 j)), zar b1 kb1 8 (fun j => nI (mm 1 j)), zar b2 kb2 40 (fun j => nI (mm 2 j)), zar b3 kb3 40 (fun j => nI (mm 3 j)), zar b4 kb4 40 (fun j => nI (mm 4 j)), zar b5 kb5 40 (fun j => nI (mm 5 j)), zar b6 kb6 40 (fun j => nI (mm 6 j)), zar b7 kb7 40 (fun j => nI (mm 7 j)), zar b8 kb8 40 (fun j => nI (mm 8 j)), zar b9 kb9 40 (fun j => nI (mm 9 j)), zar b10 kb10 40 (fun j => nI (mm 10 j)), zar b11 kb11 40 (fun j => nI (mm 11 j)), zar b14 kb14 12 (fun j => nI (Wd j)), zar b16 kb16 12 bo] H := hP
      have hD : va_D A [zob h0 6 [.int (nI mg), .ref b0, .ref b1, .int (nI n), .ref b2, .ref b3, .ref b4, .ref b5, .ref b6, .ref b7, .ref b8, .ref b9, .ref b10, .ref b11, .int (nI rg - nI 1), .int (nI rn), .int (nI ro), .int (nI sp), .int (nI gp), .int (nI fx), .ref b12, .ref b13, .ref b14, .ref b15, .ref b16, .ref b17], zar b0 kb0 8 (fun j => nI (mm 0 j)), zar b1 kb1 8 (fun j => nI (mm 1 j)), zar b2 kb2 40 (fun j => nI (mm 2 j)), zar b3 kb3 40 (fun j => nI (mm 3 j)), zar b4 kb4 40 (fun j => nI (mm 4 j)), zar b5 kb5 40 (fun j => nI (mm 5 j)), zar b6 kb6 40 (fun j => nI (mm 6 j)), zar b7 kb7 40 (fun j => nI (mm 7 j)), zar b8 kb8 40 (fun j => nI (mm 8 j)), zar b9 kb9 40 (fun j => nI (mm 9 j)), zar b10 kb10 40 (fun j => nI (mm 10 j)), zar b11 kb11 40 (fun j => nI (mm 11 j)), zar b14 kb14 12 (fun j => nI (Wd j)), zar b16 kb16 12 bo] := hD
      refine lv_iload_n hx hb dMD_fixWidths_35 rfl (lv_at hl 0 rfl) ?_
      refine lv_aload_n hx hb dMD_fixWidths_36 rfl (lv_at hl 2 rfl) ?_
      refine va_get (D := (dC, dI)) (ci := 6) (v := .int (nI n)) (C := RMD) (T := TMD) (N := 26) hx hb hz in_MD hown hK hP 0 rfl rfl 3 (by decide) (hz _ wd_587) (fun _ h9 => h9) rfl dMD_fixWidths_37 ?_
      have t2 := nI_toInt (n := n) (by omega)
      have t3 := nI_toInt (n := n) (by omega)
      refine lv_icmp_ge (tgt := 180) hx hb dMD_fixWidths_40 rfl (fun _ => ?_) (fun h => by have h := z_nle h; omega)
      refine lv_iconst (v := nI 0) hx hb dMD_fixWidths_180 (by decide) ?_
      refine lv_topi (fun x4 e5 => ?_)
      have e5 : x4 = nI (0 - zGv (mm 3) (mm 2) (mm 4) n) := e5.trans (by rw [Nat.zero_sub])
      subst e5
      refine lv_istore_n hx hb dMD_fixWidths_181 rfl hl (Nat.le_of_ble_eq_true rfl) rfl (fun ls hl => ?_)
      have hl : lv_has ls 7 [(2, .int (nI (0 - zGv (mm 3) (mm 2) (mm 4) n))), (1, .int (nI (zCo mm n))), (0, .ref h0)] := hl
      refine lv_iconst (v := nI 0) hx hb dMD_fixWidths_182 (by decide) ?_
      refine lv_istore_n hx hb dMD_fixWidths_183 rfl hl (Nat.le_of_ble_eq_true rfl) rfl (fun ls hl => ?_)
      have hl : lv_has ls 7 [(3, .int (nI 0)), (2, .int (nI (0 - zGv (mm 3) (mm 2) (mm 4) n))), (1, .int (nI (zCo mm n))), (0, .ref h0)] := hl
      refine zl_up (σ := Unit) (zCo mm n) (fun i x9 ls => lv_has ls 7 [(3, .int (nI i)), (2, .int (nI (i - zGv (mm 3) (mm 2) (mm 4) n))), (1, .int (nI (zCo mm n))), (0, .ref h0)]) ?_ ?_ 0 (Nat.zero_le _) () ls (lv_sub hl [0, 1, 2, 3] rfl)
      · intro x9 ls hI
        have hl := hI
        have hl : lv_has ls 7 [(3, .int (nI (zCo mm n))), (2, .int (nI ((zCo mm n) - zGv (mm 3) (mm 2) (mm 4) n))), (1, .int (nI (zCo mm n))), (0, .ref h0)] := hl
        refine lv_iload_n hx hb dMD_fixWidths_184 rfl (lv_at hl 0 rfl) ?_
        refine lv_iload_n hx hb dMD_fixWidths_185 rfl (lv_at hl 2 rfl) ?_
        have t6 := zCo_le hm n
        have t7 := nI_toInt (n := zCo mm n) (by omega)
        have t8 := zCo_le hm n
        have t9 := nI_toInt (n := zCo mm n) (by omega)
        refine lv_icmp_ge (tgt := 212) hx hb dMD_fixWidths_186 rfl (fun _ => ?_) (fun h => by have h := z_nle h; omega)
        have hbn := zFx_0 (gp := gp) htile (fun k hk => ⟨hm 7 k, (hL k hk).2⟩) n (Nat.le_refl _)
        have hWb : ∀ q, Wd q ≤ 20000 := by rw [hzI.1]; exact fun q => Nat.le_trans (hbn.2 q) (by omega)
        have hS9 := zRs_12 (f := Wd) (i0 := 0) (e := zCo mm n) hWb (by omega)
        refine lv_iconst (v := nI 0) hx hb dMD_fixWidths_212 (by decide) ?_
        refine lv_aload_n hx hb dMD_fixWidths_213 rfl (lv_at hl 3 rfl) ?_
        refine vp_callSi (W.runV (As := []) (rest := [.int (nI 0)]) ⟨hx, hb, hml, hown, hz⟩ (x_MD_room l dC dI h0 b0 b1 b2 b3 b4 b5 b6 b7 b8 b9 b10 b11 b12 b13 b14 b15 b16 b17 kb0 kb1 kb2 kb3 kb4 kb5 kb6 kb7 kb8 kb9 kb10 kb11 mg n _ rn ro sp gp fx _ (hm) (by omega) (hg) (hG) (hE) (hL) (hs)) (cwV 0 hz (z_gV wd_773 wd_775 wd_25 wd_37 wd_776) rfl rfl rfl (by decide +kernel) ⟨Nat.le_of_ble_eq_true rfl, Nat.le_of_ble_eq_true rfl⟩) (zr_preV hK (hP.sub [0, 1, 2, 3, 4, 5, 6, 7, 8, 9, 10, 11, 12] rfl) (va_recv (q0 := 0) hK hP (q := (RMD, TMD, 26)) rfl rfl) [0, 1, 2, 3, 4, 5, 6, 7, 8, 9, 10, 11] rfl z_true (fun _ _ _ => trivial)) rfl rfl hl.1 rfl (lv_room (Nat.le_of_ble_eq_true rfl)) dMD_fixWidths_214 ⟨Nat.le_of_ble_eq_true rfl, Nat.le_of_ble_eq_true rfl⟩) (fun r10 h_r10 => ?_)
        have h_r10 : r10 = nI (sp - gp * (zCo mm n + 1)) := h_r10
        subst h_r10
        refine lv_aload_n hx hb dMD_fixWidths_217 rfl (lv_at hl 3 rfl) ?_
        refine va_get (D := (dC, dI)) (ci := 6) (v := .ref b14) (C := RMD) (T := TMD) (N := 26) hx hb hz in_MD hown hK hP 0 rfl rfl 22 (by decide) (hz _ wd_606) (fun _ h9 => h9) rfl dMD_fixWidths_218 ?_
        refine lv_iconst (v := nI 0) hx hb dMD_fixWidths_221 (by decide) ?_
        refine lv_iload_n hx hb dMD_fixWidths_222 rfl (lv_at hl 2 rfl) ?_
        refine vp_callSi (W.runS (As := [.ref b14, .int (nI 0), .int (nI (zCo mm n))]) (rest := [.int (nI (sp - gp * (zCo mm n + 1))), .int (nI 0)]) ⟨hx, hb, hml, hown, hz⟩ (x_MD_sumOf l dC dI b14 kb14 Wd 0 (zCo mm n) (by omega) (by omega)) (va_cwS 3 hz (z_gS wd_762 wd_763 wd_37 wd_764) rfl rfl rfl (by decide +kernel) ⟨Nat.le_of_ble_eq_true rfl, Nat.le_of_ble_eq_true rfl⟩) (zr_preS hK (hP.sub [13] rfl) [12] rfl z_true (fun _ _ _ => trivial)) rfl rfl hl.1 rfl (lv_room (Nat.le_of_ble_eq_true rfl)) dMD_fixWidths_223 ⟨Nat.le_of_ble_eq_true rfl, Nat.le_of_ble_eq_true rfl⟩) (fun r11 h_r11 => ?_)
        have h_r11 : r11 = nI (zRs Wd 0 (zCo mm n)) := h_r11
        subst h_r11
        refine lv_isub hx hb dMD_fixWidths_226 ?_
        refine vp_callSi (W.runS (As := [.int (nI 0), .int ((nI (sp - gp * (zCo mm n + 1))) - (nI (zRs Wd 0 (zCo mm n))))]) (rest := []) ⟨hx, hb, hml, hown, hz⟩ (x_MD_greater0 l dC dI ((nI (sp - gp * (zCo mm n + 1))) - (nI (zRs Wd 0 (zCo mm n)))) ) (va_cwS 2 hz (z_gS wd_755 wd_756 wd_37 wd_757) rfl rfl rfl (by decide +kernel) ⟨Nat.le_of_ble_eq_true rfl, Nat.le_of_ble_eq_true rfl⟩) (zr_preS hK (hP.sub [] rfl) [] rfl z_true (fun _ _ _ => trivial)) rfl rfl hl.1 rfl (lv_room (Nat.le_of_ble_eq_true rfl)) dMD_fixWidths_227 ⟨Nat.le_of_ble_eq_true rfl, Nat.le_of_ble_eq_true rfl⟩) (fun r12 h_r12 => ?_)
        have h_r12 : r12 = nI ((sp - gp * (zCo mm n + 1)) - zRs Wd 0 (zCo mm n)) := z_gr0 (by omega) (by omega) h_r12
        subst h_r12
        refine lv_istore_n hx hb dMD_fixWidths_230 rfl hl (Nat.le_of_ble_eq_true rfl) rfl (fun ls hl => ?_)
        have hl : lv_has ls 7 [(3, .int (nI ((sp - gp * (zCo mm n + 1)) - zRs Wd 0 (zCo mm n)))), (2, .int (nI ((zCo mm n) - zGv (mm 3) (mm 2) (mm 4) n))), (1, .int (nI (zCo mm n))), (0, .ref h0)] := hl
        refine lv_iconst (v := nI 0) hx hb dMD_fixWidths_231 (by decide) ?_
        refine lv_topi (fun x13 e14 => ?_)
        have e14 : x13 = nI (0 - zGv (mm 3) (mm 2) (mm 4) n) := e14.trans (by rw [Nat.zero_sub])
        subst e14
        refine lv_istore hx hb dMD_fixWidths_232 hl (Nat.le_of_ble_eq_true rfl) rfl (fun ls hl => ?_)
        have hl : lv_has ls 7 [(4, .int (nI (0 - zGv (mm 3) (mm 2) (mm 4) n))), (3, .int (nI ((sp - gp * (zCo mm n + 1)) - zRs Wd 0 (zCo mm n)))), (2, .int (nI ((zCo mm n) - zGv (mm 3) (mm 2) (mm 4) n))), (1, .int (nI (zCo mm n))), (0, .ref h0)] := hl
        refine lv_iconst (v := nI 0) hx hb dMD_fixWidths_234 (by decide) ?_
        refine lv_istore hx hb dMD_fixWidths_235 hl (Nat.le_of_ble_eq_true rfl) rfl (fun ls hl => ?_)
        have hl : lv_has ls 7 [(5, .int (nI 0)), (4, .int (nI (0 - zGv (mm 3) (mm 2) (mm 4) n))), (3, .int (nI ((sp - gp * (zCo mm n + 1)) - zRs Wd 0 (zCo mm n)))), (2, .int (nI ((zCo mm n) - zGv (mm 3) (mm 2) (mm 4) n))), (1, .int (nI (zCo mm n))), (0, .ref h0)] := hl
        refine zl_upW (σ := Unit) (zCo mm n) (fun i x9 ls H locs => lv_has ls 7 [(5, .int (nI i)), (4, .int (nI (i - zGv (mm 3) (mm 2) (mm 4) n))), (3, .int (nI ((sp - gp * (zCo mm n + 1)) - zRs Wd 0 (zCo mm n)))), (2, .int (nI (zCo mm n - zGv (mm 3) (mm 2) (mm 4) n))), (1, .int (nI (zCo mm n))), (0, .ref h0)] ∧ va_P (dC, dI) vwCl [zob h0 6 [.int (nI mg), .ref b0, .ref b1, .int (nI n), .ref b2, .ref b3, .ref b4, .ref b5, .ref b6, .ref b7, .ref b8, .ref b9, .ref b10, .ref b11, .int (nI rg - nI 1), .int (nI rn), .int (nI ro), .int (nI sp), .int (nI gp), .int (nI fx), .ref b12, .ref b13, .ref b14, .ref b15, .ref b16, .ref b17], zar b0 kb0 8 (fun j => nI (mm 0 j)), zar b1 kb1 8 (fun j => nI (mm 1 j)), zar b2 kb2 40 (fun j => nI (mm 2 j)), zar b3 kb3 40 (fun j => nI (mm 3 j)), zar b4 kb4 40 (fun j => nI (mm 4 j)), zar b5 kb5 40 (fun j => nI (mm 5 j)), zar b6 kb6 40 (fun j => nI (mm 6 j)), zar b7 kb7 40 (fun j => nI (mm 7 j)), zar b8 kb8 40 (fun j => nI (mm 8 j)), zar b9 kb9 40 (fun j => nI (mm 9 j)), zar b10 kb10 40 (fun j => nI (mm 10 j)), zar b11 kb11 40 (fun j => nI (mm 11 j)), zar b14 kb14 12 (fun j => nI (zT1 Wd ((sp - gp * (zCo mm n + 1)) - zRs Wd 0 (zCo mm n)) (zCo mm n - zGv (mm 3) (mm 2) (mm 4) n) (zGv (mm 3) (mm 2) (mm 4) n) (i - zGv (mm 3) (mm 2) (mm 4) n) j)), zar b16 kb16 12 bo] H ∧ va_D A [zob h0 6 [.int (nI mg), .ref b0, .ref b1, .int (nI n), .ref b2, .ref b3, .ref b4, .ref b5, .ref b6, .ref b7, .ref b8, .ref b9, .ref b10, .ref b11, .int (nI rg - nI 1), .int (nI rn), .int (nI ro), .int (nI sp), .int (nI gp), .int (nI fx), .ref b12, .ref b13, .ref b14, .ref b15, .ref b16, .ref b17], zar b0 kb0 8 (fun j => nI (mm 0 j)), zar b1 kb1 8 (fun j => nI (mm 1 j)), zar b2 kb2 40 (fun j => nI (mm 2 j)), zar b3 kb3 40 (fun j => nI (mm 3 j)), zar b4 kb4 40 (fun j => nI (mm 4 j)), zar b5 kb5 40 (fun j => nI (mm 5 j)), zar b6 kb6 40 (fun j => nI (mm 6 j)), zar b7 kb7 40 (fun j => nI (mm 7 j)), zar b8 kb8 40 (fun j => nI (mm 8 j)), zar b9 kb9 40 (fun j => nI (mm 9 j)), zar b10 kb10 40 (fun j => nI (mm 10 j)), zar b11 kb11 40 (fun j => nI (mm 11 j)), zar b14 kb14 12 (fun j => nI (zT1 Wd ((sp - gp * (zCo mm n + 1)) - zRs Wd 0 (zCo mm n)) (zCo mm n - zGv (mm 3) (mm 2) (mm 4) n) (zGv (mm 3) (mm 2) (mm 4) n) (i - zGv (mm 3) (mm 2) (mm 4) n) j)), zar b16 kb16 12 bo] ∧ va_S A s.heap H locs) ?_ ?_ 0 (Nat.zero_le _) () ls H locs ⟨lv_sub hl [0, 1, 2, 3, 4, 5] rfl, by rw [Nat.zero_sub, zT1_0]; exact hP, by rw [Nat.zero_sub, zT1_0]; exact hD, hS⟩
        · intro x9 ls H locs hI
          obtain ⟨hl, hP, hD, hS⟩ := hI
          have hl : lv_has ls 7 [(5, .int (nI (zCo mm n))), (4, .int (nI ((zCo mm n) - zGv (mm 3) (mm 2) (mm 4) n))), (3, .int (nI ((sp - gp * (zCo mm n + 1)) - zRs Wd 0 (zCo mm n)))), (2, .int (nI (zCo mm n - zGv (mm 3) (mm 2) (mm 4) n))), (1, .int (nI (zCo mm n))), (0, .ref h0)] := hl
          have hP : va_P (dC, dI) vwCl [zob h0 6 [.int (nI mg), .ref b0, .ref b1, .int (nI n), .ref b2, .ref b3, .ref b4, .ref b5, .ref b6, .ref b7, .ref b8, .ref b9, .ref b10, .ref b11, .int (nI rg - nI 1), .int (nI rn), .int (nI ro), .int (nI sp), .int (nI gp), .int (nI fx), .ref b12, .ref b13, .ref b14, .ref b15, .ref b16, .ref b17], zar b0 kb0 8 (fun j => nI (mm 0 j)), zar b1 kb1 8 (fun j => nI (mm 1 j)), zar b2 kb2 40 (fun j => nI (mm 2 j)), zar b3 kb3 40 (fun j => nI (mm 3 j)), zar b4 kb4 40 (fun j => nI (mm 4 j)), zar b5 kb5 40 (fun j => nI (mm 5 j)), zar b6 kb6 40 (fun j => nI (mm 6 j)), zar b7 kb7 40 (fun j => nI (mm 7 j)), zar b8 kb8 40 (fun j => nI (mm 8 j)), zar b9 kb9 40 (fun j => nI (mm 9 j)), zar b10 kb10 40 (fun j => nI (mm 10 j)), zar b11 kb11 40 (fun j => nI (mm 11 j)), zar b14 kb14 12 (fun j => nI (zT1 Wd ((sp - gp * (zCo mm n + 1)) - zRs Wd 0 (zCo mm n)) (zCo mm n - zGv (mm 3) (mm 2) (mm 4) n) (zGv (mm 3) (mm 2) (mm 4) n) ((zCo mm n) - zGv (mm 3) (mm 2) (mm 4) n) j)), zar b16 kb16 12 bo] H := hP
          have hD : va_D A [zob h0 6 [.int (nI mg), .ref b0, .ref b1, .int (nI n), .ref b2, .ref b3, .ref b4, .ref b5, .ref b6, .ref b7, .ref b8, .ref b9, .ref b10, .ref b11, .int (nI rg - nI 1), .int (nI rn), .int (nI ro), .int (nI sp), .int (nI gp), .int (nI fx), .ref b12, .ref b13, .ref b14, .ref b15, .ref b16, .ref b17], zar b0 kb0 8 (fun j => nI (mm 0 j)), zar b1 kb1 8 (fun j => nI (mm 1 j)), zar b2 kb2 40 (fun j => nI (mm 2 j)), zar b3 kb3 40 (fun j => nI (mm 3 j)), zar b4 kb4 40 (fun j => nI (mm 4 j)), zar b5 kb5 40 (fun j => nI (mm 5 j)), zar b6 kb6 40 (fun j => nI (mm 6 j)), zar b7 kb7 40 (fun j => nI (mm 7 j)), zar b8 kb8 40 (fun j => nI (mm 8 j)), zar b9 kb9 40 (fun j => nI (mm 9 j)), zar b10 kb10 40 (fun j => nI (mm 10 j)), zar b11 kb11 40 (fun j => nI (mm 11 j)), zar b14 kb14 12 (fun j => nI (zT1 Wd ((sp - gp * (zCo mm n + 1)) - zRs Wd 0 (zCo mm n)) (zCo mm n - zGv (mm 3) (mm 2) (mm 4) n) (zGv (mm 3) (mm 2) (mm 4) n) ((zCo mm n) - zGv (mm 3) (mm 2) (mm 4) n) j)), zar b16 kb16 12 bo] := hD
          refine lv_iload hx hb dMD_fixWidths_237 (lv_at hl 0 rfl) ?_
          refine lv_iload_n hx hb dMD_fixWidths_239 rfl (lv_at hl 4 rfl) ?_
          have t15 := zCo_le hm n
          have t16 := nI_toInt (n := zCo mm n) (by omega)
          have t17 := zCo_le hm n
          have t18 := nI_toInt (n := zCo mm n) (by omega)
          refine lv_icmp_ge (tgt := 289) hx hb dMD_fixWidths_240 rfl (fun _ => ?_) (fun h => by have h := z_nle h; omega)
          subst hQ
          exact zw_vret (D := (dC, dI)) (cl := vwCl) (A := A) (zT1 Wd ((sp - gp * (zCo mm n + 1)) - zRs Wd 0 (zCo mm n)) (zCo mm n - zGv (mm 3) (mm 2) (mm 4) n) (zGv (mm 3) (mm 2) (mm 4) n) ((zCo mm n) - zGv (mm 3) (mm 2) (mm 4) n), bo) hx hb hr hlocks (zFw_of hzI.1 hgvc (fun q hq => by rw [hzI.1]; exact hbn.1 q hq)) (hP.sub [0, 1, 2, 3, 4, 5, 6, 7, 8, 9, 10, 11, 12, 13, 14] rfl) (hK.sub [] rfl) (hD.sub [0, 1, 2, 3, 4, 5, 6, 7, 8, 9, 10, 11, 12, 13, 14] (by decide) rfl) hS dMD_fixWidths_289
        · intro i hi ih
          intro x9 ls H locs hI
          obtain ⟨hl, hP, hD, hS⟩ := hI
          have hl : lv_has ls 7 [(5, .int (nI i)), (4, .int (nI (i - zGv (mm 3) (mm 2) (mm 4) n))), (3, .int (nI ((sp - gp * (zCo mm n + 1)) - zRs Wd 0 (zCo mm n)))), (2, .int (nI (zCo mm n - zGv (mm 3) (mm 2) (mm 4) n))), (1, .int (nI (zCo mm n))), (0, .ref h0)] := hl
          have hP : va_P (dC, dI) vwCl [zob h0 6 [.int (nI mg), .ref b0, .ref b1, .int (nI n), .ref b2, .ref b3, .ref b4, .ref b5, .ref b6, .ref b7, .ref b8, .ref b9, .ref b10, .ref b11, .int (nI rg - nI 1), .int (nI rn), .int (nI ro), .int (nI sp), .int (nI gp), .int (nI fx), .ref b12, .ref b13, .ref b14, .ref b15, .ref b16, .ref b17], zar b0 kb0 8 (fun j => nI (mm 0 j)), zar b1 kb1 8 (fun j => nI (mm 1 j)), zar b2 kb2 40 (fun j => nI (mm 2 j)), zar b3 kb3 40 (fun j => nI (mm 3 j)), zar b4 kb4 40 (fun j => nI (mm 4 j)), zar b5 kb5 40 (fun j => nI (mm 5 j)), zar b6 kb6 40 (fun j => nI (mm 6 j)), zar b7 kb7 40 (fun j => nI (mm 7 j)), zar b8 kb8 40 (fun j => nI (mm 8 j)), zar b9 kb9 40 (fun j => nI (mm 9 j)), zar b10 kb10 40 (fun j => nI (mm 10 j)), zar b11 kb11 40 (fun j => nI (mm 11 j)), zar b14 kb14 12 (fun j => nI (zT1 Wd ((sp - gp * (zCo mm n + 1)) - zRs Wd 0 (zCo mm n)) (zCo mm n - zGv (mm 3) (mm 2) (mm 4) n) (zGv (mm 3) (mm 2) (mm 4) n) (i - zGv (mm 3) (mm 2) (mm 4) n) j)), zar b16 kb16 12 bo] H := hP
          have hD : va_D A [zob h0 6 [.int (nI mg), .ref b0, .ref b1, .int (nI n), .ref b2, .ref b3, .ref b4, .ref b5, .ref b6, .ref b7, .ref b8, .ref b9, .ref b10, .ref b11, .int (nI rg - nI 1), .int (nI rn), .int (nI ro), .int (nI sp), .int (nI gp), .int (nI fx), .ref b12, .ref b13, .ref b14, .ref b15, .ref b16, .ref b17], zar b0 kb0 8 (fun j => nI (mm 0 j)), zar b1 kb1 8 (fun j => nI (mm 1 j)), zar b2 kb2 40 (fun j => nI (mm 2 j)), zar b3 kb3 40 (fun j => nI (mm 3 j)), zar b4 kb4 40 (fun j => nI (mm 4 j)), zar b5 kb5 40 (fun j => nI (mm 5 j)), zar b6 kb6 40 (fun j => nI (mm 6 j)), zar b7 kb7 40 (fun j => nI (mm 7 j)), zar b8 kb8 40 (fun j => nI (mm 8 j)), zar b9 kb9 40 (fun j => nI (mm 9 j)), zar b10 kb10 40 (fun j => nI (mm 10 j)), zar b11 kb11 40 (fun j => nI (mm 11 j)), zar b14 kb14 12 (fun j => nI (zT1 Wd ((sp - gp * (zCo mm n + 1)) - zRs Wd 0 (zCo mm n)) (zCo mm n - zGv (mm 3) (mm 2) (mm 4) n) (zGv (mm 3) (mm 2) (mm 4) n) (i - zGv (mm 3) (mm 2) (mm 4) n) j)), zar b16 kb16 12 bo] := hD
          refine lv_iload hx hb dMD_fixWidths_237 (lv_at hl 0 rfl) ?_
          refine lv_iload_n hx hb dMD_fixWidths_239 rfl (lv_at hl 4 rfl) ?_
          have t19 := nI_toInt (n := i) (by omega)
          have t20 := zCo_le hm n
          have t21 := nI_toInt (n := zCo mm n) (by omega)
          refine lv_icmp_ge (tgt := 289) hx hb dMD_fixWidths_240 rfl (fun h => by have h := z_le h; omega) (fun _ => ?_)
          rcases Nat.lt_or_ge i (zGv (mm 3) (mm 2) (mm 4) n) with h_g | h_g
          · refine lv_aload_n hx hb dMD_fixWidths_243 rfl (lv_at hl 5 rfl) ?_
            refine va_get (D := (dC, dI)) (ci := 6) (v := .ref b16) (C := RMD) (T := TMD) (N := 26) hx hb hz in_MD hown hK hP 0 rfl rfl 24 (by decide) (hz _ wd_608) (fun _ h9 => h9) rfl dMD_fixWidths_244 ?_
            refine lv_iload hx hb dMD_fixWidths_247 (lv_at hl 0 rfl) ?_
            refine va_zald hx hb hK hP 14 13 rfl rfl (vp_in_nI (by omega) (by omega)) dMD_fixWidths_249 ?_
            refine lv_topi (fun x22 e23 => ?_)
            have e23 : x22 = nI 1 := e23.trans (by rw [nI_clamp (by omega), hzI.2 _ (by omega)]; exact zBi_1 h_g)
            subst e23
            refine lv_if_ne (tgt := 283) hx hb dMD_fixWidths_250 rfl (fun _ => ?_) (fun h => absurd h (by decide))
            refine lv_iinc (k := 0) (v := nI (i + 1)) hx hb dMD_fixWidths_283 hl rfl (by rw [show Int32.ofInt 1 = nI 1 from by decide]; exact nI_add _ _) (Nat.le_of_ble_eq_true rfl) rfl (fun ls hl => ?_)
            have hl : lv_has ls 7 [(5, .int (nI (i + 1))), (4, .int (nI (i - zGv (mm 3) (mm 2) (mm 4) n))), (3, .int (nI ((sp - gp * (zCo mm n + 1)) - zRs Wd 0 (zCo mm n)))), (2, .int (nI (zCo mm n - zGv (mm 3) (mm 2) (mm 4) n))), (1, .int (nI (zCo mm n))), (0, .ref h0)] := hl
            refine lv_goto (tgt := 237) hx hb dMD_fixWidths_286 rfl ?_
            rw [show i - zGv (mm 3) (mm 2) (mm 4) n = i + 1 - zGv (mm 3) (mm 2) (mm 4) n by omega] at hl hP hD
            exact ih () ls H locs ⟨lv_sub hl [0, 1, 2, 3, 4, 5] rfl, hP, hD, hS⟩
          · refine lv_aload_n hx hb dMD_fixWidths_243 rfl (lv_at hl 5 rfl) ?_
            refine va_get (D := (dC, dI)) (ci := 6) (v := .ref b16) (C := RMD) (T := TMD) (N := 26) hx hb hz in_MD hown hK hP 0 rfl rfl 24 (by decide) (hz _ wd_608) (fun _ h9 => h9) rfl dMD_fixWidths_244 ?_
            refine lv_iload hx hb dMD_fixWidths_247 (lv_at hl 0 rfl) ?_
            refine va_zald hx hb hK hP 14 13 rfl rfl (vp_in_nI (by omega) (by omega)) dMD_fixWidths_249 ?_
            refine lv_topi (fun x24 e25 => ?_)
            have e25 : x24 = nI 0 := e25.trans (by rw [nI_clamp (by omega), hzI.2 _ (by omega)]; exact zBi_0 (by omega))
            subst e25
            refine lv_if_ne (tgt := 283) hx hb dMD_fixWidths_250 rfl (fun h => absurd (by decide) h) (fun _ => ?_)
            refine lv_aload_n hx hb dMD_fixWidths_253 rfl (lv_at hl 5 rfl) ?_
            refine va_get (D := (dC, dI)) (ci := 6) (v := .ref b14) (C := RMD) (T := TMD) (N := 26) hx hb hz in_MD hown hK hP 0 rfl rfl 22 (by decide) (hz _ wd_606) (fun _ h9 => h9) rfl dMD_fixWidths_254 ?_
            refine lv_iload hx hb dMD_fixWidths_257 (lv_at hl 0 rfl) ?_
            refine lv_iload_n hx hb dMD_fixWidths_259 rfl (lv_at hl 2 rfl) ?_
            refine lv_iload_n hx hb dMD_fixWidths_260 rfl (lv_at hl 3 rfl) ?_
            refine lv_idiv hx hb dMD_fixWidths_261 (nI_ne0 (by omega) (by omega)) ?_
            refine lv_topi (fun x26 e27 => ?_)
            have e27 : x26 = nI (((sp - gp * (zCo mm n + 1)) - zRs Wd 0 (zCo mm n)) / (zCo mm n - zGv (mm 3) (mm 2) (mm 4) n)) := e27.trans (pk_div (by omega) (by omega) (by omega))
            subst e27
            refine z_join (fun v2 : Int32 => v2 = nI (if i - zGv (mm 3) (mm 2) (mm 4) n < ((sp - gp * (zCo mm n + 1)) - zRs Wd 0 (zCo mm n)) % (zCo mm n - zGv (mm 3) (mm 2) (mm 4) n) then 1 else 0)) (fun v2 => W p l e ({ frames := 2, cells := 0, slots := 0, locals := 42 }) s m [.ref h0].toArray below meth c H locs 0 0 Q (F0 m 275 ls (.int v2 :: [.int (nI (((sp - gp * (zCo mm n + 1)) - zRs Wd 0 (zCo mm n)) / (zCo mm n - zGv (mm 3) (mm 2) (mm 4) n))), .int (nI i), .ref b14]))) (fun v2 hv2 => ?_) (fun J275 => ?_)
            · subst hv2
              refine lv_iadd hx hb dMD_fixWidths_275 ?_
              refine lv_topi (fun x28 e29 => ?_)
              have e29 : x28 = nI ((((sp - gp * (zCo mm n + 1)) - zRs Wd 0 (zCo mm n)) / (zCo mm n - zGv (mm 3) (mm 2) (mm 4) n)) + (if i - zGv (mm 3) (mm 2) (mm 4) n < ((sp - gp * (zCo mm n + 1)) - zRs Wd 0 (zCo mm n)) % (zCo mm n - zGv (mm 3) (mm 2) (mm 4) n) then 1 else 0)) := e29.trans (nI_add _ _)
              subst e29
              refine va_iast hx hb hK hP hD hS 13 12 rfl rfl (vp_in_nI (by omega) (by omega)) dMD_fixWidths_276 (fun H locs hP hD hS => ?_)
              have e_u := z_upd (f := zT1 Wd ((sp - gp * (zCo mm n + 1)) - zRs Wd 0 (zCo mm n)) (zCo mm n - zGv (mm 3) (mm 2) (mm 4) n) (zGv (mm 3) (mm 2) (mm 4) n) (i - zGv (mm 3) (mm 2) (mm 4) n)) (k := i) (v := (((sp - gp * (zCo mm n + 1)) - zRs Wd 0 (zCo mm n)) / (zCo mm n - zGv (mm 3) (mm 2) (mm 4) n)) + (if i - zGv (mm 3) (mm 2) (mm 4) n < ((sp - gp * (zCo mm n + 1)) - zRs Wd 0 (zCo mm n)) % (zCo mm n - zGv (mm 3) (mm 2) (mm 4) n) then 1 else 0)) (by omega)
              have hP : va_P (dC, dI) vwCl [zob h0 6 [.int (nI mg), .ref b0, .ref b1, .int (nI n), .ref b2, .ref b3, .ref b4, .ref b5, .ref b6, .ref b7, .ref b8, .ref b9, .ref b10, .ref b11, .int (nI rg - nI 1), .int (nI rn), .int (nI ro), .int (nI sp), .int (nI gp), .int (nI fx), .ref b12, .ref b13, .ref b14, .ref b15, .ref b16, .ref b17], zar b0 kb0 8 (fun j => nI (mm 0 j)), zar b1 kb1 8 (fun j => nI (mm 1 j)), zar b2 kb2 40 (fun j => nI (mm 2 j)), zar b3 kb3 40 (fun j => nI (mm 3 j)), zar b4 kb4 40 (fun j => nI (mm 4 j)), zar b5 kb5 40 (fun j => nI (mm 5 j)), zar b6 kb6 40 (fun j => nI (mm 6 j)), zar b7 kb7 40 (fun j => nI (mm 7 j)), zar b8 kb8 40 (fun j => nI (mm 8 j)), zar b9 kb9 40 (fun j => nI (mm 9 j)), zar b10 kb10 40 (fun j => nI (mm 10 j)), zar b11 kb11 40 (fun j => nI (mm 11 j)), zar b14 kb14 12 (fun j => nI (va_up (zT1 Wd ((sp - gp * (zCo mm n + 1)) - zRs Wd 0 (zCo mm n)) (zCo mm n - zGv (mm 3) (mm 2) (mm 4) n) (zGv (mm 3) (mm 2) (mm 4) n) (i - zGv (mm 3) (mm 2) (mm 4) n)) i ((((sp - gp * (zCo mm n + 1)) - zRs Wd 0 (zCo mm n)) / (zCo mm n - zGv (mm 3) (mm 2) (mm 4) n)) + (if i - zGv (mm 3) (mm 2) (mm 4) n < ((sp - gp * (zCo mm n + 1)) - zRs Wd 0 (zCo mm n)) % (zCo mm n - zGv (mm 3) (mm 2) (mm 4) n) then 1 else 0)) j)), zar b16 kb16 12 bo] H := by rw [← e_u]; exact hP
              have hD : va_D A [zob h0 6 [.int (nI mg), .ref b0, .ref b1, .int (nI n), .ref b2, .ref b3, .ref b4, .ref b5, .ref b6, .ref b7, .ref b8, .ref b9, .ref b10, .ref b11, .int (nI rg - nI 1), .int (nI rn), .int (nI ro), .int (nI sp), .int (nI gp), .int (nI fx), .ref b12, .ref b13, .ref b14, .ref b15, .ref b16, .ref b17], zar b0 kb0 8 (fun j => nI (mm 0 j)), zar b1 kb1 8 (fun j => nI (mm 1 j)), zar b2 kb2 40 (fun j => nI (mm 2 j)), zar b3 kb3 40 (fun j => nI (mm 3 j)), zar b4 kb4 40 (fun j => nI (mm 4 j)), zar b5 kb5 40 (fun j => nI (mm 5 j)), zar b6 kb6 40 (fun j => nI (mm 6 j)), zar b7 kb7 40 (fun j => nI (mm 7 j)), zar b8 kb8 40 (fun j => nI (mm 8 j)), zar b9 kb9 40 (fun j => nI (mm 9 j)), zar b10 kb10 40 (fun j => nI (mm 10 j)), zar b11 kb11 40 (fun j => nI (mm 11 j)), zar b14 kb14 12 (fun j => nI (va_up (zT1 Wd ((sp - gp * (zCo mm n + 1)) - zRs Wd 0 (zCo mm n)) (zCo mm n - zGv (mm 3) (mm 2) (mm 4) n) (zGv (mm 3) (mm 2) (mm 4) n) (i - zGv (mm 3) (mm 2) (mm 4) n)) i ((((sp - gp * (zCo mm n + 1)) - zRs Wd 0 (zCo mm n)) / (zCo mm n - zGv (mm 3) (mm 2) (mm 4) n)) + (if i - zGv (mm 3) (mm 2) (mm 4) n < ((sp - gp * (zCo mm n + 1)) - zRs Wd 0 (zCo mm n)) % (zCo mm n - zGv (mm 3) (mm 2) (mm 4) n) then 1 else 0)) j)), zar b16 kb16 12 bo] := by rw [← e_u]; exact hD
              refine lv_iload hx hb dMD_fixWidths_277 (lv_at hl 1 rfl) ?_
              refine lv_iconst (v := nI 1) hx hb dMD_fixWidths_279 (by decide) ?_
              refine lv_iadd hx hb dMD_fixWidths_280 ?_
              refine lv_topi (fun x30 e31 => ?_)
              have e31 : x30 = nI (i + 1 - zGv (mm 3) (mm 2) (mm 4) n) := e31.trans ((nI_add _ _).trans (congrArg nI (by omega)))
              subst e31
              refine lv_istore hx hb dMD_fixWidths_281 hl (Nat.le_of_ble_eq_true rfl) rfl (fun ls hl => ?_)
              have hl : lv_has ls 7 [(4, .int (nI (i + 1 - zGv (mm 3) (mm 2) (mm 4) n))), (5, .int (nI i)), (3, .int (nI ((sp - gp * (zCo mm n + 1)) - zRs Wd 0 (zCo mm n)))), (2, .int (nI (zCo mm n - zGv (mm 3) (mm 2) (mm 4) n))), (1, .int (nI (zCo mm n))), (0, .ref h0)] := hl
              refine lv_iinc (k := 1) (v := nI (i + 1)) hx hb dMD_fixWidths_283 hl rfl (by rw [show Int32.ofInt 1 = nI 1 from by decide]; exact nI_add _ _) (Nat.le_of_ble_eq_true rfl) rfl (fun ls hl => ?_)
              have hl : lv_has ls 7 [(5, .int (nI (i + 1))), (4, .int (nI (i + 1 - zGv (mm 3) (mm 2) (mm 4) n))), (3, .int (nI ((sp - gp * (zCo mm n + 1)) - zRs Wd 0 (zCo mm n)))), (2, .int (nI (zCo mm n - zGv (mm 3) (mm 2) (mm 4) n))), (1, .int (nI (zCo mm n))), (0, .ref h0)] := hl
              refine lv_goto (tgt := 237) hx hb dMD_fixWidths_286 rfl ?_
              rw [zT1_s' h_g] at hP hD
              exact ih () ls H locs ⟨lv_sub hl [0, 1, 2, 3, 4, 5] rfl, hP, hD, hS⟩
            · refine lv_iload hx hb dMD_fixWidths_262 (lv_at hl 1 rfl) ?_
              refine lv_iload_n hx hb dMD_fixWidths_264 rfl (lv_at hl 2 rfl) ?_
              refine lv_iload_n hx hb dMD_fixWidths_265 rfl (lv_at hl 3 rfl) ?_
              have hmo := Nat.mod_lt ((sp - gp * (zCo mm n + 1)) - zRs Wd 0 (zCo mm n)) (show 0 < zCo mm n - zGv (mm 3) (mm 2) (mm 4) n by omega)
              refine lv_irem hx hb dMD_fixWidths_266 (nI_ne0 (by omega) (by omega)) ?_
              refine lv_topi (fun x32 e33 => ?_)
              have e33 : x32 = nI (((sp - gp * (zCo mm n + 1)) - zRs Wd 0 (zCo mm n)) % (zCo mm n - zGv (mm 3) (mm 2) (mm 4) n)) := e33.trans (pk_rem (by omega) (by omega) (by omega))
              subst e33
              have t34 := nI_toInt (n := i - zGv (mm 3) (mm 2) (mm 4) n) (by omega)
              have t35 := zCo_le hm n
              have t36 := zCo_le hm n
              have t37 := zCo_le hm n
              have t38 := nI_toInt (n := ((sp - gp * (zCo mm n + 1)) - zRs Wd 0 (zCo mm n)) % (zCo mm n - zGv (mm 3) (mm 2) (mm 4) n)) (by omega)
              refine lv_icmp_ge (tgt := 274) hx hb dMD_fixWidths_267 rfl (fun h_r => ?_) (fun h_r => ?_)
              · have h_r := z_le h_r
                refine lv_iconst (v := nI 0) hx hb dMD_fixWidths_274 (by decide) ?_
                exact J275 _ (by rw [if_neg (by omega)])
              · have h_r := z_nle h_r
                refine lv_iconst (v := nI 1) hx hb dMD_fixWidths_270 (by decide) ?_
                refine lv_goto (tgt := 275) hx hb dMD_fixWidths_271 rfl ?_
                exact J275 _ (by rw [if_pos (by omega)])
      · intro i hi ih
        intro x9 ls hI
        have hl := hI
        have hl : lv_has ls 7 [(3, .int (nI i)), (2, .int (nI (i - zGv (mm 3) (mm 2) (mm 4) n))), (1, .int (nI (zCo mm n))), (0, .ref h0)] := hl
        refine lv_iload_n hx hb dMD_fixWidths_184 rfl (lv_at hl 0 rfl) ?_
        refine lv_iload_n hx hb dMD_fixWidths_185 rfl (lv_at hl 2 rfl) ?_
        have t40 := nI_toInt (n := i) (by omega)
        have t41 := zCo_le hm n
        have t42 := nI_toInt (n := zCo mm n) (by omega)
        refine lv_icmp_ge (tgt := 212) hx hb dMD_fixWidths_186 rfl (fun h => by have h := z_le h; omega) (fun _ => ?_)
        rcases Nat.lt_or_ge i (zGv (mm 3) (mm 2) (mm 4) n) with h_g | h_g
        · refine lv_aload_n hx hb dMD_fixWidths_189 rfl (lv_at hl 3 rfl) ?_
          refine va_get (D := (dC, dI)) (ci := 6) (v := .ref b16) (C := RMD) (T := TMD) (N := 26) hx hb hz in_MD hown hK hP 0 rfl rfl 24 (by decide) (hz _ wd_608) (fun _ h9 => h9) rfl dMD_fixWidths_190 ?_
          refine lv_iload_n hx hb dMD_fixWidths_193 rfl (lv_at hl 0 rfl) ?_
          refine va_zald hx hb hK hP 14 13 rfl rfl (vp_in_nI (by omega) (by omega)) dMD_fixWidths_194 ?_
          refine lv_topi (fun x43 e44 => ?_)
          have e44 : x43 = nI 1 := e44.trans (by rw [nI_clamp (by omega), hzI.2 _ (by omega)]; exact zBi_1 h_g)
          subst e44
          refine lv_if_eq (tgt := 202) hx hb dMD_fixWidths_195 rfl (fun h => absurd h (by decide)) (fun _ => ?_)
          refine lv_iload_n hx hb dMD_fixWidths_198 rfl (lv_at hl 1 rfl) ?_
          refine lv_topi (fun x45 e46 => ?_)
          have e46 : x45 = nI (i + 1 - zGv (mm 3) (mm 2) (mm 4) n) := e46.trans (congrArg nI (by omega))
          subst e46
          refine lv_goto (tgt := 205) hx hb dMD_fixWidths_199 rfl ?_
          refine lv_istore_n hx hb dMD_fixWidths_205 rfl hl (Nat.le_of_ble_eq_true rfl) rfl (fun ls hl => ?_)
          have hl : lv_has ls 7 [(2, .int (nI (i + 1 - zGv (mm 3) (mm 2) (mm 4) n))), (3, .int (nI i)), (1, .int (nI (zCo mm n))), (0, .ref h0)] := hl
          refine lv_iinc (k := 1) (v := nI (i + 1)) hx hb dMD_fixWidths_206 hl rfl (by rw [show Int32.ofInt 1 = nI 1 from by decide]; exact nI_add _ _) (Nat.le_of_ble_eq_true rfl) rfl (fun ls hl => ?_)
          have hl : lv_has ls 7 [(3, .int (nI (i + 1))), (2, .int (nI (i + 1 - zGv (mm 3) (mm 2) (mm 4) n))), (1, .int (nI (zCo mm n))), (0, .ref h0)] := hl
          refine lv_goto (tgt := 184) hx hb dMD_fixWidths_209 rfl ?_
          exact ih () ls (lv_sub hl [0, 1, 2, 3] rfl)
        · refine lv_aload_n hx hb dMD_fixWidths_189 rfl (lv_at hl 3 rfl) ?_
          refine va_get (D := (dC, dI)) (ci := 6) (v := .ref b16) (C := RMD) (T := TMD) (N := 26) hx hb hz in_MD hown hK hP 0 rfl rfl 24 (by decide) (hz _ wd_608) (fun _ h9 => h9) rfl dMD_fixWidths_190 ?_
          refine lv_iload_n hx hb dMD_fixWidths_193 rfl (lv_at hl 0 rfl) ?_
          refine va_zald hx hb hK hP 14 13 rfl rfl (vp_in_nI (by omega) (by omega)) dMD_fixWidths_194 ?_
          refine lv_topi (fun x47 e48 => ?_)
          have e48 : x47 = nI 0 := e48.trans (by rw [nI_clamp (by omega), hzI.2 _ (by omega)]; exact zBi_0 (by omega))
          subst e48
          refine lv_if_eq (tgt := 202) hx hb dMD_fixWidths_195 rfl (fun _ => ?_) (fun h => absurd (by decide) h)
          refine lv_iload_n hx hb dMD_fixWidths_202 rfl (lv_at hl 1 rfl) ?_
          refine lv_iconst (v := nI 1) hx hb dMD_fixWidths_203 (by decide) ?_
          refine lv_iadd hx hb dMD_fixWidths_204 ?_
          refine lv_topi (fun x49 e50 => ?_)
          have e50 : x49 = nI (i + 1 - zGv (mm 3) (mm 2) (mm 4) n) := e50.trans ((nI_add _ _).trans (congrArg nI (by omega)))
          subst e50
          refine lv_istore_n hx hb dMD_fixWidths_205 rfl hl (Nat.le_of_ble_eq_true rfl) rfl (fun ls hl => ?_)
          have hl : lv_has ls 7 [(2, .int (nI (i + 1 - zGv (mm 3) (mm 2) (mm 4) n))), (3, .int (nI i)), (1, .int (nI (zCo mm n))), (0, .ref h0)] := hl
          refine lv_iinc (k := 1) (v := nI (i + 1)) hx hb dMD_fixWidths_206 hl rfl (by rw [show Int32.ofInt 1 = nI 1 from by decide]; exact nI_add _ _) (Nat.le_of_ble_eq_true rfl) rfl (fun ls hl => ?_)
          have hl : lv_has ls 7 [(3, .int (nI (i + 1))), (2, .int (nI (i + 1 - zGv (mm 3) (mm 2) (mm 4) n))), (1, .int (nI (zCo mm n))), (0, .ref h0)] := hl
          refine lv_goto (tgt := 184) hx hb dMD_fixWidths_209 rfl ?_
          exact ih () ls (lv_sub hl [0, 1, 2, 3] rfl)
    · intro i hi ih
      intro x9 ls H locs hI
      obtain ⟨Wd, bo⟩ := x9
      obtain ⟨hl, hzI, hP, hD, hS⟩ := hI
      have hl : lv_has ls 7 [(2, .int (nI i)), (1, .int (nI (zCo mm n))), (0, .ref h0)] := hl
      have hP : va_P (dC, dI) vwCl [zob h0 6 [.int (nI mg), .ref b0, .ref b1, .int (nI n), .ref b2, .ref b3, .ref b4, .ref b5, .ref b6, .ref b7, .ref b8, .ref b9, .ref b10, .ref b11, .int (nI rg - nI 1), .int (nI rn), .int (nI ro), .int (nI sp), .int (nI gp), .int (nI fx), .ref b12, .ref b13, .ref b14, .ref b15, .ref b16, .ref b17], zar b0 kb0 8 (fun j => nI (mm 0 j)), zar b1 kb1 8 (fun j => nI (mm 1 j)), zar b2 kb2 40 (fun j => nI (mm 2 j)), zar b3 kb3 40 (fun j => nI (mm 3 j)), zar b4 kb4 40 (fun j => nI (mm 4 j)), zar b5 kb5 40 (fun j => nI (mm 5 j)), zar b6 kb6 40 (fun j => nI (mm 6 j)), zar b7 kb7 40 (fun j => nI (mm 7 j)), zar b8 kb8 40 (fun j => nI (mm 8 j)), zar b9 kb9 40 (fun j => nI (mm 9 j)), zar b10 kb10 40 (fun j => nI (mm 10 j)), zar b11 kb11 40 (fun j => nI (mm 11 j)), zar b14 kb14 12 (fun j => nI (Wd j)), zar b16 kb16 12 bo] H := hP
      have hD : va_D A [zob h0 6 [.int (nI mg), .ref b0, .ref b1, .int (nI n), .ref b2, .ref b3, .ref b4, .ref b5, .ref b6, .ref b7, .ref b8, .ref b9, .ref b10, .ref b11, .int (nI rg - nI 1), .int (nI rn), .int (nI ro), .int (nI sp), .int (nI gp), .int (nI fx), .ref b12, .ref b13, .ref b14, .ref b15, .ref b16, .ref b17], zar b0 kb0 8 (fun j => nI (mm 0 j)), zar b1 kb1 8 (fun j => nI (mm 1 j)), zar b2 kb2 40 (fun j => nI (mm 2 j)), zar b3 kb3 40 (fun j => nI (mm 3 j)), zar b4 kb4 40 (fun j => nI (mm 4 j)), zar b5 kb5 40 (fun j => nI (mm 5 j)), zar b6 kb6 40 (fun j => nI (mm 6 j)), zar b7 kb7 40 (fun j => nI (mm 7 j)), zar b8 kb8 40 (fun j => nI (mm 8 j)), zar b9 kb9 40 (fun j => nI (mm 9 j)), zar b10 kb10 40 (fun j => nI (mm 10 j)), zar b11 kb11 40 (fun j => nI (mm 11 j)), zar b14 kb14 12 (fun j => nI (Wd j)), zar b16 kb16 12 bo] := hD
      refine lv_iload_n hx hb dMD_fixWidths_35 rfl (lv_at hl 0 rfl) ?_
      refine lv_aload_n hx hb dMD_fixWidths_36 rfl (lv_at hl 2 rfl) ?_
      refine va_get (D := (dC, dI)) (ci := 6) (v := .int (nI n)) (C := RMD) (T := TMD) (N := 26) hx hb hz in_MD hown hK hP 0 rfl rfl 3 (by decide) (hz _ wd_587) (fun _ h9 => h9) rfl dMD_fixWidths_37 ?_
      have t51 := nI_toInt (n := i) (by omega)
      have t52 := nI_toInt (n := n) (by omega)
      refine lv_icmp_ge (tgt := 180) hx hb dMD_fixWidths_40 rfl (fun h => by have h := z_le h; omega) (fun _ => ?_)
      have hLi := hL i hi
      have hm7 := hm 7 i
      have hm3 := hm 3 i
      have hgg : gp * (mm 4 i - 1) ≤ 20 * 12 := Nat.mul_le_mul (by omega) (by omega)
      have hbb := zFx_0 (gp := gp) htile (fun k hk => ⟨hm 7 k, (hL k hk).2⟩) i (by omega)
      have hsh : zOwn (mm 7) (mm 4) gp i ≤ 1000 := by unfold zOwn; omega
      refine lv_iconst (v := nI 0) hx hb dMD_fixWidths_43 (by decide) ?_
      refine lv_aload_n hx hb dMD_fixWidths_44 rfl (lv_at hl 2 rfl) ?_
      refine va_get (D := (dC, dI)) (ci := 6) (v := .ref b7) (C := RMD) (T := TMD) (N := 26) hx hb hz in_MD hown hK hP 0 rfl rfl 9 (by decide) (hz _ wd_593) (fun _ h9 => h9) rfl dMD_fixWidths_45 ?_
      refine lv_iload_n hx hb dMD_fixWidths_48 rfl (lv_at hl 0 rfl) ?_
      refine va_iald hx hb hK hP 8 7 rfl rfl (vp_in_nI (by omega) (by omega)) dMD_fixWidths_49 ?_
      refine lv_topi (fun x53 e54 => ?_)
      have e54 : x53 = nI (mm 7 i) := e54.trans (by show nI (mm 7 (nI i).toNatClampNeg) = _; rw [nI_clamp (by omega)])
      subst e54
      refine lv_aload_n hx hb dMD_fixWidths_50 rfl (lv_at hl 2 rfl) ?_
      refine va_get (D := (dC, dI)) (ci := 6) (v := .int (nI gp)) (C := RMD) (T := TMD) (N := 26) hx hb hz in_MD hown hK hP 0 rfl rfl 18 (by decide) (hz _ wd_602) (fun _ h9 => h9) rfl dMD_fixWidths_51 ?_
      refine lv_aload_n hx hb dMD_fixWidths_54 rfl (lv_at hl 2 rfl) ?_
      refine va_get (D := (dC, dI)) (ci := 6) (v := .ref b4) (C := RMD) (T := TMD) (N := 26) hx hb hz in_MD hown hK hP 0 rfl rfl 6 (by decide) (hz _ wd_590) (fun _ h9 => h9) rfl dMD_fixWidths_55 ?_
      refine lv_iload_n hx hb dMD_fixWidths_58 rfl (lv_at hl 0 rfl) ?_
      refine va_iald hx hb hK hP 5 4 rfl rfl (vp_in_nI (by omega) (by omega)) dMD_fixWidths_59 ?_
      refine lv_topi (fun x55 e56 => ?_)
      have e56 : x55 = nI (mm 4 i) := e56.trans (by show nI (mm 4 (nI i).toNatClampNeg) = _; rw [nI_clamp (by omega)])
      subst e56
      refine lv_iconst (v := nI 1) hx hb dMD_fixWidths_60 (by decide) ?_
      refine lv_isub hx hb dMD_fixWidths_61 ?_
      refine lv_topi (fun x57 e58 => ?_)
      have e58 : x57 = nI ((mm 4 i) - 1) := e58.trans (pk_sub (by omega))
      subst e58
      refine lv_imul hx hb dMD_fixWidths_62 ?_
      refine lv_topi (fun x59 e60 => ?_)
      have e60 : x59 = nI (gp * ((mm 4 i) - 1)) := e60.trans (pk_mul _ _)
      subst e60
      refine lv_isub hx hb dMD_fixWidths_63 ?_
      refine vp_callSi (W.runS (As := [.int (nI 0), .int ((nI (mm 7 i)) - (nI (gp * ((mm 4 i) - 1))))]) (rest := []) ⟨hx, hb, hml, hown, hz⟩ (x_MD_greater0 l dC dI ((nI (mm 7 i)) - (nI (gp * ((mm 4 i) - 1)))) ) (va_cwS 2 hz (z_gS wd_755 wd_756 wd_37 wd_757) rfl rfl rfl (by decide +kernel) ⟨Nat.le_of_ble_eq_true rfl, Nat.le_of_ble_eq_true rfl⟩) (zr_preS hK (hP.sub [] rfl) [] rfl z_true (fun _ _ _ => trivial)) rfl rfl hl.1 rfl (lv_room (Nat.le_of_ble_eq_true rfl)) dMD_fixWidths_64 ⟨Nat.le_of_ble_eq_true rfl, Nat.le_of_ble_eq_true rfl⟩) (fun r61 h_r61 => ?_)
      have h_r61 : r61 = nI (zOwn (mm 7) (mm 4) gp i) := z_gr0 (by omega) (by omega) h_r61
      subst h_r61
      refine lv_istore_n hx hb dMD_fixWidths_67 rfl hl (Nat.le_of_ble_eq_true rfl) rfl (fun ls hl => ?_)
      have hl : lv_has ls 7 [(3, .int (nI (zOwn (mm 7) (mm 4) gp i))), (2, .int (nI i)), (1, .int (nI (zCo mm n))), (0, .ref h0)] := hl
      by_cases h_t : mm 3 i = 0
      · refine lv_iconst (v := nI 0) hx hb dMD_fixWidths_68 (by decide) ?_
        refine lv_istore hx hb dMD_fixWidths_69 hl (Nat.le_of_ble_eq_true rfl) rfl (fun ls hl => ?_)
        have hl : lv_has ls 7 [(4, .int (nI 0)), (3, .int (nI (zOwn (mm 7) (mm 4) gp i))), (2, .int (nI i)), (1, .int (nI (zCo mm n))), (0, .ref h0)] := hl
        refine zl_upW (σ := (Nat → Int32)) (mm 4 i) (fun u bq ls H locs => lv_has ls 7 [(4, .int (nI u)), (3, .int (nI (zOwn (mm 7) (mm 4) gp i))), (2, .int (nI i)), (1, .int (nI (zCo mm n))), (0, .ref h0)] ∧ (∀ q, q < 12 → bq q = zBi (mm 2 i + u) q) ∧ va_P (dC, dI) vwCl [zob h0 6 [.int (nI mg), .ref b0, .ref b1, .int (nI n), .ref b2, .ref b3, .ref b4, .ref b5, .ref b6, .ref b7, .ref b8, .ref b9, .ref b10, .ref b11, .int (nI rg - nI 1), .int (nI rn), .int (nI ro), .int (nI sp), .int (nI gp), .int (nI fx), .ref b12, .ref b13, .ref b14, .ref b15, .ref b16, .ref b17], zar b0 kb0 8 (fun j => nI (mm 0 j)), zar b1 kb1 8 (fun j => nI (mm 1 j)), zar b2 kb2 40 (fun j => nI (mm 2 j)), zar b3 kb3 40 (fun j => nI (mm 3 j)), zar b4 kb4 40 (fun j => nI (mm 4 j)), zar b5 kb5 40 (fun j => nI (mm 5 j)), zar b6 kb6 40 (fun j => nI (mm 6 j)), zar b7 kb7 40 (fun j => nI (mm 7 j)), zar b8 kb8 40 (fun j => nI (mm 8 j)), zar b9 kb9 40 (fun j => nI (mm 9 j)), zar b10 kb10 40 (fun j => nI (mm 10 j)), zar b11 kb11 40 (fun j => nI (mm 11 j)), zar b14 kb14 12 (fun j => nI (zT1 Wd (zOwn (mm 7) (mm 4) gp i) (mm 4 i) (mm 2 i) u j)), zar b16 kb16 12 bq] H ∧ va_D A [zob h0 6 [.int (nI mg), .ref b0, .ref b1, .int (nI n), .ref b2, .ref b3, .ref b4, .ref b5, .ref b6, .ref b7, .ref b8, .ref b9, .ref b10, .ref b11, .int (nI rg - nI 1), .int (nI rn), .int (nI ro), .int (nI sp), .int (nI gp), .int (nI fx), .ref b12, .ref b13, .ref b14, .ref b15, .ref b16, .ref b17], zar b0 kb0 8 (fun j => nI (mm 0 j)), zar b1 kb1 8 (fun j => nI (mm 1 j)), zar b2 kb2 40 (fun j => nI (mm 2 j)), zar b3 kb3 40 (fun j => nI (mm 3 j)), zar b4 kb4 40 (fun j => nI (mm 4 j)), zar b5 kb5 40 (fun j => nI (mm 5 j)), zar b6 kb6 40 (fun j => nI (mm 6 j)), zar b7 kb7 40 (fun j => nI (mm 7 j)), zar b8 kb8 40 (fun j => nI (mm 8 j)), zar b9 kb9 40 (fun j => nI (mm 9 j)), zar b10 kb10 40 (fun j => nI (mm 10 j)), zar b11 kb11 40 (fun j => nI (mm 11 j)), zar b14 kb14 12 (fun j => nI (zT1 Wd (zOwn (mm 7) (mm 4) gp i) (mm 4 i) (mm 2 i) u j)), zar b16 kb16 12 bq] ∧ va_S A s.heap H locs) ?_ ?_ 0 (Nat.zero_le _) bo ls H locs ⟨lv_sub hl [0, 1, 2, 3, 4] rfl, fun q hq => by rw [hzI.2 q hq, ← htile i hi h_t]; rfl, by rw [zT1_0]; exact hP, by rw [zT1_0]; exact hD, hS⟩
        · intro x9 ls H locs hI
          obtain ⟨bq, rfl⟩ : ∃ z, z = x9 := ⟨_, rfl⟩
          obtain ⟨hl, hyI, hP, hD, hS⟩ := hI
          have hl : lv_has ls 7 [(4, .int (nI (mm 4 i))), (3, .int (nI (zOwn (mm 7) (mm 4) gp i))), (2, .int (nI i)), (1, .int (nI (zCo mm n))), (0, .ref h0)] := hl
          have hP : va_P (dC, dI) vwCl [zob h0 6 [.int (nI mg), .ref b0, .ref b1, .int (nI n), .ref b2, .ref b3, .ref b4, .ref b5, .ref b6, .ref b7, .ref b8, .ref b9, .ref b10, .ref b11, .int (nI rg - nI 1), .int (nI rn), .int (nI ro), .int (nI sp), .int (nI gp), .int (nI fx), .ref b12, .ref b13, .ref b14, .ref b15, .ref b16, .ref b17], zar b0 kb0 8 (fun j => nI (mm 0 j)), zar b1 kb1 8 (fun j => nI (mm 1 j)), zar b2 kb2 40 (fun j => nI (mm 2 j)), zar b3 kb3 40 (fun j => nI (mm 3 j)), zar b4 kb4 40 (fun j => nI (mm 4 j)), zar b5 kb5 40 (fun j => nI (mm 5 j)), zar b6 kb6 40 (fun j => nI (mm 6 j)), zar b7 kb7 40 (fun j => nI (mm 7 j)), zar b8 kb8 40 (fun j => nI (mm 8 j)), zar b9 kb9 40 (fun j => nI (mm 9 j)), zar b10 kb10 40 (fun j => nI (mm 10 j)), zar b11 kb11 40 (fun j => nI (mm 11 j)), zar b14 kb14 12 (fun j => nI (zT1 Wd (zOwn (mm 7) (mm 4) gp i) (mm 4 i) (mm 2 i) (mm 4 i) j)), zar b16 kb16 12 bq] H := hP
          have hD : va_D A [zob h0 6 [.int (nI mg), .ref b0, .ref b1, .int (nI n), .ref b2, .ref b3, .ref b4, .ref b5, .ref b6, .ref b7, .ref b8, .ref b9, .ref b10, .ref b11, .int (nI rg - nI 1), .int (nI rn), .int (nI ro), .int (nI sp), .int (nI gp), .int (nI fx), .ref b12, .ref b13, .ref b14, .ref b15, .ref b16, .ref b17], zar b0 kb0 8 (fun j => nI (mm 0 j)), zar b1 kb1 8 (fun j => nI (mm 1 j)), zar b2 kb2 40 (fun j => nI (mm 2 j)), zar b3 kb3 40 (fun j => nI (mm 3 j)), zar b4 kb4 40 (fun j => nI (mm 4 j)), zar b5 kb5 40 (fun j => nI (mm 5 j)), zar b6 kb6 40 (fun j => nI (mm 6 j)), zar b7 kb7 40 (fun j => nI (mm 7 j)), zar b8 kb8 40 (fun j => nI (mm 8 j)), zar b9 kb9 40 (fun j => nI (mm 9 j)), zar b10 kb10 40 (fun j => nI (mm 10 j)), zar b11 kb11 40 (fun j => nI (mm 11 j)), zar b14 kb14 12 (fun j => nI (zT1 Wd (zOwn (mm 7) (mm 4) gp i) (mm 4 i) (mm 2 i) (mm 4 i) j)), zar b16 kb16 12 bq] := hD
          refine lv_iload hx hb dMD_fixWidths_71 (lv_at hl 0 rfl) ?_
          refine lv_aload_n hx hb dMD_fixWidths_73 rfl (lv_at hl 4 rfl) ?_
          refine va_get (D := (dC, dI)) (ci := 6) (v := .ref b4) (C := RMD) (T := TMD) (N := 26) hx hb hz in_MD hown hK hP 0 rfl rfl 6 (by decide) (hz _ wd_590) (fun _ h9 => h9) rfl dMD_fixWidths_74 ?_
          refine lv_iload_n hx hb dMD_fixWidths_77 rfl (lv_at hl 2 rfl) ?_
          refine va_iald hx hb hK hP 5 4 rfl rfl (vp_in_nI (by omega) (by omega)) dMD_fixWidths_78 ?_
          refine lv_topi (fun x62 e63 => ?_)
          have e63 : x62 = nI (mm 4 i) := e63.trans (by show nI (mm 4 (nI i).toNatClampNeg) = _; rw [nI_clamp (by omega)])
          subst e63
          have t64 := hm 4 i
          have t65 := nI_toInt (n := mm 4 i) (by omega)
          have t66 := hm 4 i
          have t67 := nI_toInt (n := mm 4 i) (by omega)
          refine lv_icmp_ge (tgt := 174) hx hb dMD_fixWidths_79 rfl (fun _ => ?_) (fun h => by have h := z_nle h; omega)
          refine lv_iinc (k := 2) (v := nI (i + 1)) hx hb dMD_fixWidths_174 hl rfl (by rw [show Int32.ofInt 1 = nI 1 from by decide]; exact nI_add _ _) (Nat.le_of_ble_eq_true rfl) rfl (fun ls hl => ?_)
          have hl : lv_has ls 7 [(2, .int (nI (i + 1))), (4, .int (nI (mm 4 i))), (3, .int (nI (zOwn (mm 7) (mm 4) gp i))), (1, .int (nI (zCo mm n))), (0, .ref h0)] := hl
          refine lv_goto (tgt := 35) hx hb dMD_fixWidths_177 rfl ?_
          exact ih (zT1 Wd (zOwn (mm 7) (mm 4) gp i) (mm 4 i) (mm 2 i) (mm 4 i), bq) ls H locs ⟨lv_sub hl [0, 3, 4] rfl, ⟨by rw [zFx_T h_t, ← hzI.1]; exact zT1_shr (by omega) (fun q h1 _ => by rw [hzI.1]; exact hbb.1 q (by rw [← htile i hi h_t]; exact h1)), fun q hq => by rw [zGv_T h_t]; exact hyI q hq⟩, hP, hD, hS⟩
        · intro u hu uh
          intro x9 ls H locs hI
          obtain ⟨bq, rfl⟩ : ∃ z, z = x9 := ⟨_, rfl⟩
          obtain ⟨hl, hyI, hP, hD, hS⟩ := hI
          have hl : lv_has ls 7 [(4, .int (nI u)), (3, .int (nI (zOwn (mm 7) (mm 4) gp i))), (2, .int (nI i)), (1, .int (nI (zCo mm n))), (0, .ref h0)] := hl
          have hP : va_P (dC, dI) vwCl [zob h0 6 [.int (nI mg), .ref b0, .ref b1, .int (nI n), .ref b2, .ref b3, .ref b4, .ref b5, .ref b6, .ref b7, .ref b8, .ref b9, .ref b10, .ref b11, .int (nI rg - nI 1), .int (nI rn), .int (nI ro), .int (nI sp), .int (nI gp), .int (nI fx), .ref b12, .ref b13, .ref b14, .ref b15, .ref b16, .ref b17], zar b0 kb0 8 (fun j => nI (mm 0 j)), zar b1 kb1 8 (fun j => nI (mm 1 j)), zar b2 kb2 40 (fun j => nI (mm 2 j)), zar b3 kb3 40 (fun j => nI (mm 3 j)), zar b4 kb4 40 (fun j => nI (mm 4 j)), zar b5 kb5 40 (fun j => nI (mm 5 j)), zar b6 kb6 40 (fun j => nI (mm 6 j)), zar b7 kb7 40 (fun j => nI (mm 7 j)), zar b8 kb8 40 (fun j => nI (mm 8 j)), zar b9 kb9 40 (fun j => nI (mm 9 j)), zar b10 kb10 40 (fun j => nI (mm 10 j)), zar b11 kb11 40 (fun j => nI (mm 11 j)), zar b14 kb14 12 (fun j => nI (zT1 Wd (zOwn (mm 7) (mm 4) gp i) (mm 4 i) (mm 2 i) u j)), zar b16 kb16 12 bq] H := hP
          have hD : va_D A [zob h0 6 [.int (nI mg), .ref b0, .ref b1, .int (nI n), .ref b2, .ref b3, .ref b4, .ref b5, .ref b6, .ref b7, .ref b8, .ref b9, .ref b10, .ref b11, .int (nI rg - nI 1), .int (nI rn), .int (nI ro), .int (nI sp), .int (nI gp), .int (nI fx), .ref b12, .ref b13, .ref b14, .ref b15, .ref b16, .ref b17], zar b0 kb0 8 (fun j => nI (mm 0 j)), zar b1 kb1 8 (fun j => nI (mm 1 j)), zar b2 kb2 40 (fun j => nI (mm 2 j)), zar b3 kb3 40 (fun j => nI (mm 3 j)), zar b4 kb4 40 (fun j => nI (mm 4 j)), zar b5 kb5 40 (fun j => nI (mm 5 j)), zar b6 kb6 40 (fun j => nI (mm 6 j)), zar b7 kb7 40 (fun j => nI (mm 7 j)), zar b8 kb8 40 (fun j => nI (mm 8 j)), zar b9 kb9 40 (fun j => nI (mm 9 j)), zar b10 kb10 40 (fun j => nI (mm 10 j)), zar b11 kb11 40 (fun j => nI (mm 11 j)), zar b14 kb14 12 (fun j => nI (zT1 Wd (zOwn (mm 7) (mm 4) gp i) (mm 4 i) (mm 2 i) u j)), zar b16 kb16 12 bq] := hD
          refine lv_iload hx hb dMD_fixWidths_71 (lv_at hl 0 rfl) ?_
          refine lv_aload_n hx hb dMD_fixWidths_73 rfl (lv_at hl 4 rfl) ?_
          refine va_get (D := (dC, dI)) (ci := 6) (v := .ref b4) (C := RMD) (T := TMD) (N := 26) hx hb hz in_MD hown hK hP 0 rfl rfl 6 (by decide) (hz _ wd_590) (fun _ h9 => h9) rfl dMD_fixWidths_74 ?_
          refine lv_iload_n hx hb dMD_fixWidths_77 rfl (lv_at hl 2 rfl) ?_
          refine va_iald hx hb hK hP 5 4 rfl rfl (vp_in_nI (by omega) (by omega)) dMD_fixWidths_78 ?_
          refine lv_topi (fun x68 e69 => ?_)
          have e69 : x68 = nI (mm 4 i) := e69.trans (by show nI (mm 4 (nI i).toNatClampNeg) = _; rw [nI_clamp (by omega)])
          subst e69
          have t70 := nI_toInt (n := u) (by omega)
          have t71 := hm 4 i
          have t72 := nI_toInt (n := mm 4 i) (by omega)
          refine lv_icmp_ge (tgt := 174) hx hb dMD_fixWidths_79 rfl (fun h => by have h := z_le h; omega) (fun _ => ?_)
          refine lv_aload_n hx hb dMD_fixWidths_82 rfl (lv_at hl 4 rfl) ?_
          refine va_get (D := (dC, dI)) (ci := 6) (v := .ref b3) (C := RMD) (T := TMD) (N := 26) hx hb hz in_MD hown hK hP 0 rfl rfl 5 (by decide) (hz _ wd_589) (fun _ h9 => h9) rfl dMD_fixWidths_83 ?_
          refine lv_iload_n hx hb dMD_fixWidths_86 rfl (lv_at hl 2 rfl) ?_
          refine va_iald hx hb hK hP 4 3 rfl rfl (vp_in_nI (by omega) (by omega)) dMD_fixWidths_87 ?_
          refine lv_topi (fun x73 e74 => ?_)
          have e74 : x73 = nI (mm 3 i) := e74.trans (by show nI (mm 3 (nI i).toNatClampNeg) = _; rw [nI_clamp (by omega)])
          subst e74
          have t75 := hm 3 i
          have t76 := nI_toInt (n := mm 3 i) (by omega)
          have t77 : (0 : Int32).toInt = 0 := by decide
          refine lv_if_ne (tgt := 174) hx hb dMD_fixWidths_88 rfl (fun h => by have h := z_ne h; omega) (fun _ => ?_)
          refine lv_aload_n hx hb dMD_fixWidths_91 rfl (lv_at hl 4 rfl) ?_
          refine va_get (D := (dC, dI)) (ci := 6) (v := .ref b2) (C := RMD) (T := TMD) (N := 26) hx hb hz in_MD hown hK hP 0 rfl rfl 4 (by decide) (hz _ wd_588) (fun _ h9 => h9) rfl dMD_fixWidths_92 ?_
          refine lv_iload_n hx hb dMD_fixWidths_95 rfl (lv_at hl 2 rfl) ?_
          refine va_iald hx hb hK hP 3 2 rfl rfl (vp_in_nI (by omega) (by omega)) dMD_fixWidths_96 ?_
          refine lv_topi (fun x78 e79 => ?_)
          have e79 : x78 = nI (mm 2 i) := e79.trans (by show nI (mm 2 (nI i).toNatClampNeg) = _; rw [nI_clamp (by omega)])
          subst e79
          refine lv_iload hx hb dMD_fixWidths_97 (lv_at hl 0 rfl) ?_
          refine lv_iadd hx hb dMD_fixWidths_99 ?_
          refine lv_topi (fun x80 e81 => ?_)
          have e81 : x80 = nI ((mm 2 i) + u) := e81.trans (nI_add _ _)
          subst e81
          refine lv_istore hx hb dMD_fixWidths_100 hl (Nat.le_of_ble_eq_true rfl) rfl (fun ls hl => ?_)
          have hl : lv_has ls 7 [(5, .int (nI ((mm 2 i) + u))), (4, .int (nI u)), (3, .int (nI (zOwn (mm 7) (mm 4) gp i))), (2, .int (nI i)), (1, .int (nI (zCo mm n))), (0, .ref h0)] := hl
          refine lv_iload_n hx hb dMD_fixWidths_102 rfl (lv_at hl 2 rfl) ?_
          refine lv_aload_n hx hb dMD_fixWidths_103 rfl (lv_at hl 5 rfl) ?_
          refine va_get (D := (dC, dI)) (ci := 6) (v := .ref b4) (C := RMD) (T := TMD) (N := 26) hx hb hz in_MD hown hK hP 0 rfl rfl 6 (by decide) (hz _ wd_590) (fun _ h9 => h9) rfl dMD_fixWidths_104 ?_
          refine lv_iload_n hx hb dMD_fixWidths_107 rfl (lv_at hl 3 rfl) ?_
          refine va_iald hx hb hK hP 5 4 rfl rfl (vp_in_nI (by omega) (by omega)) dMD_fixWidths_108 ?_
          refine lv_topi (fun x82 e83 => ?_)
          have e83 : x82 = nI (mm 4 i) := e83.trans (by show nI (mm 4 (nI i).toNatClampNeg) = _; rw [nI_clamp (by omega)])
          subst e83
          refine lv_idiv hx hb dMD_fixWidths_109 (nI_ne0 (by omega) (by omega)) ?_
          refine lv_topi (fun x84 e85 => ?_)
          have e85 : x84 = nI (zOwn (mm 7) (mm 4) gp i / mm 4 i) := e85.trans (pk_div (by omega) (by omega) (by omega))
          subst e85
          refine z_join (fun v1 : Int32 => v1 = nI (if u < zOwn (mm 7) (mm 4) gp i % mm 4 i then 1 else 0)) (fun v1 => W p l e ({ frames := 2, cells := 0, slots := 0, locals := 42 }) s m [.ref h0].toArray below meth c H locs 0 0 Q (F0 m 128 ls (.int v1 :: [.int (nI (zOwn (mm 7) (mm 4) gp i / mm 4 i))]))) (fun v1 hv1 => ?_) (fun J128 => ?_)
          · subst hv1
            refine lv_iadd hx hb dMD_fixWidths_128 ?_
            refine lv_topi (fun x86 e87 => ?_)
            have e87 : x86 = nI ((zOwn (mm 7) (mm 4) gp i / mm 4 i) + (if u < zOwn (mm 7) (mm 4) gp i % mm 4 i then 1 else 0)) := e87.trans (nI_add _ _)
            subst e87
            refine lv_istore hx hb dMD_fixWidths_129 hl (Nat.le_of_ble_eq_true rfl) rfl (fun ls hl => ?_)
            have hl : lv_has ls 7 [(6, .int (nI ((zOwn (mm 7) (mm 4) gp i / mm 4 i) + (if u < zOwn (mm 7) (mm 4) gp i % mm 4 i then 1 else 0)))), (5, .int (nI ((mm 2 i) + u))), (4, .int (nI u)), (3, .int (nI (zOwn (mm 7) (mm 4) gp i))), (2, .int (nI i)), (1, .int (nI (zCo mm n))), (0, .ref h0)] := hl
            refine lv_aload_n hx hb dMD_fixWidths_131 rfl (lv_at hl 6 rfl) ?_
            refine va_get (D := (dC, dI)) (ci := 6) (v := .ref b14) (C := RMD) (T := TMD) (N := 26) hx hb hz in_MD hown hK hP 0 rfl rfl 22 (by decide) (hz _ wd_606) (fun _ h9 => h9) rfl dMD_fixWidths_132 ?_
            refine lv_iload hx hb dMD_fixWidths_135 (lv_at hl 1 rfl) ?_
            refine lv_aload_n hx hb dMD_fixWidths_137 rfl (lv_at hl 6 rfl) ?_
            refine va_get (D := (dC, dI)) (ci := 6) (v := .ref b16) (C := RMD) (T := TMD) (N := 26) hx hb hz in_MD hown hK hP 0 rfl rfl 24 (by decide) (hz _ wd_608) (fun _ h9 => h9) rfl dMD_fixWidths_138 ?_
            refine lv_iload hx hb dMD_fixWidths_141 (lv_at hl 1 rfl) ?_
            refine va_zald hx hb hK hP 14 13 rfl rfl (vp_in_nI (by omega) (by omega)) dMD_fixWidths_143 ?_
            refine lv_topi (fun x88 e89 => ?_)
            have e89 : x88 = nI 0 := e89.trans (by rw [nI_clamp (by omega), hyI _ (by omega)]; exact zBi_0 (by omega))
            subst e89
            refine lv_if_eq (tgt := 157) hx hb dMD_fixWidths_144 rfl (fun _ => ?_) (fun h => absurd (by decide) h)
            refine lv_iload hx hb dMD_fixWidths_157 (lv_at hl 0 rfl) ?_
            refine va_iast hx hb hK hP hD hS 13 12 rfl rfl (vp_in_nI (by omega) (by omega)) dMD_fixWidths_159 (fun H locs hP hD hS => ?_)
            have e_u := z_upd (f := zT1 Wd (zOwn (mm 7) (mm 4) gp i) (mm 4 i) (mm 2 i) u) (k := (mm 2 i) + u) (v := (zOwn (mm 7) (mm 4) gp i / mm 4 i) + (if u < zOwn (mm 7) (mm 4) gp i % mm 4 i then 1 else 0)) (by omega)
            have hP : va_P (dC, dI) vwCl [zob h0 6 [.int (nI mg), .ref b0, .ref b1, .int (nI n), .ref b2, .ref b3, .ref b4, .ref b5, .ref b6, .ref b7, .ref b8, .ref b9, .ref b10, .ref b11, .int (nI rg - nI 1), .int (nI rn), .int (nI ro), .int (nI sp), .int (nI gp), .int (nI fx), .ref b12, .ref b13, .ref b14, .ref b15, .ref b16, .ref b17], zar b0 kb0 8 (fun j => nI (mm 0 j)), zar b1 kb1 8 (fun j => nI (mm 1 j)), zar b2 kb2 40 (fun j => nI (mm 2 j)), zar b3 kb3 40 (fun j => nI (mm 3 j)), zar b4 kb4 40 (fun j => nI (mm 4 j)), zar b5 kb5 40 (fun j => nI (mm 5 j)), zar b6 kb6 40 (fun j => nI (mm 6 j)), zar b7 kb7 40 (fun j => nI (mm 7 j)), zar b8 kb8 40 (fun j => nI (mm 8 j)), zar b9 kb9 40 (fun j => nI (mm 9 j)), zar b10 kb10 40 (fun j => nI (mm 10 j)), zar b11 kb11 40 (fun j => nI (mm 11 j)), zar b14 kb14 12 (fun j => nI (va_up (zT1 Wd (zOwn (mm 7) (mm 4) gp i) (mm 4 i) (mm 2 i) u) ((mm 2 i) + u) ((zOwn (mm 7) (mm 4) gp i / mm 4 i) + (if u < zOwn (mm 7) (mm 4) gp i % mm 4 i then 1 else 0)) j)), zar b16 kb16 12 bq] H := by rw [← e_u]; exact hP
            have hD : va_D A [zob h0 6 [.int (nI mg), .ref b0, .ref b1, .int (nI n), .ref b2, .ref b3, .ref b4, .ref b5, .ref b6, .ref b7, .ref b8, .ref b9, .ref b10, .ref b11, .int (nI rg - nI 1), .int (nI rn), .int (nI ro), .int (nI sp), .int (nI gp), .int (nI fx), .ref b12, .ref b13, .ref b14, .ref b15, .ref b16, .ref b17], zar b0 kb0 8 (fun j => nI (mm 0 j)), zar b1 kb1 8 (fun j => nI (mm 1 j)), zar b2 kb2 40 (fun j => nI (mm 2 j)), zar b3 kb3 40 (fun j => nI (mm 3 j)), zar b4 kb4 40 (fun j => nI (mm 4 j)), zar b5 kb5 40 (fun j => nI (mm 5 j)), zar b6 kb6 40 (fun j => nI (mm 6 j)), zar b7 kb7 40 (fun j => nI (mm 7 j)), zar b8 kb8 40 (fun j => nI (mm 8 j)), zar b9 kb9 40 (fun j => nI (mm 9 j)), zar b10 kb10 40 (fun j => nI (mm 10 j)), zar b11 kb11 40 (fun j => nI (mm 11 j)), zar b14 kb14 12 (fun j => nI (va_up (zT1 Wd (zOwn (mm 7) (mm 4) gp i) (mm 4 i) (mm 2 i) u) ((mm 2 i) + u) ((zOwn (mm 7) (mm 4) gp i / mm 4 i) + (if u < zOwn (mm 7) (mm 4) gp i % mm 4 i then 1 else 0)) j)), zar b16 kb16 12 bq] := by rw [← e_u]; exact hD
            refine lv_aload_n hx hb dMD_fixWidths_160 rfl (lv_at hl 6 rfl) ?_
            refine va_get (D := (dC, dI)) (ci := 6) (v := .ref b16) (C := RMD) (T := TMD) (N := 26) hx hb hz in_MD hown hK hP 0 rfl rfl 24 (by decide) (hz _ wd_608) (fun _ h9 => h9) rfl dMD_fixWidths_161 ?_
            refine lv_iload hx hb dMD_fixWidths_164 (lv_at hl 1 rfl) ?_
            refine lv_iconst (v := nI 1) hx hb dMD_fixWidths_166 (by decide) ?_
            refine va_zast hx hb hK hP hD hS 14 13 rfl rfl (vp_in_nI (by omega) (by omega)) dMD_fixWidths_167 (fun H locs hP hD hS => ?_)
            have hP : va_P (dC, dI) vwCl [zob h0 6 [.int (nI mg), .ref b0, .ref b1, .int (nI n), .ref b2, .ref b3, .ref b4, .ref b5, .ref b6, .ref b7, .ref b8, .ref b9, .ref b10, .ref b11, .int (nI rg - nI 1), .int (nI rn), .int (nI ro), .int (nI sp), .int (nI gp), .int (nI fx), .ref b12, .ref b13, .ref b14, .ref b15, .ref b16, .ref b17], zar b0 kb0 8 (fun j => nI (mm 0 j)), zar b1 kb1 8 (fun j => nI (mm 1 j)), zar b2 kb2 40 (fun j => nI (mm 2 j)), zar b3 kb3 40 (fun j => nI (mm 3 j)), zar b4 kb4 40 (fun j => nI (mm 4 j)), zar b5 kb5 40 (fun j => nI (mm 5 j)), zar b6 kb6 40 (fun j => nI (mm 6 j)), zar b7 kb7 40 (fun j => nI (mm 7 j)), zar b8 kb8 40 (fun j => nI (mm 8 j)), zar b9 kb9 40 (fun j => nI (mm 9 j)), zar b10 kb10 40 (fun j => nI (mm 10 j)), zar b11 kb11 40 (fun j => nI (mm 11 j)), zar b14 kb14 12 (fun j => nI (va_up (zT1 Wd (zOwn (mm 7) (mm 4) gp i) (mm 4 i) (mm 2 i) u) ((mm 2 i) + u) ((zOwn (mm 7) (mm 4) gp i / mm 4 i) + (if u < zOwn (mm 7) (mm 4) gp i % mm 4 i then 1 else 0)) j)), zar b16 kb16 12 (upd bq (nI ((mm 2 i) + u)).toNatClampNeg (vp_nar .boolean (nI 1)))] H := hP
            have hD : va_D A [zob h0 6 [.int (nI mg), .ref b0, .ref b1, .int (nI n), .ref b2, .ref b3, .ref b4, .ref b5, .ref b6, .ref b7, .ref b8, .ref b9, .ref b10, .ref b11, .int (nI rg - nI 1), .int (nI rn), .int (nI ro), .int (nI sp), .int (nI gp), .int (nI fx), .ref b12, .ref b13, .ref b14, .ref b15, .ref b16, .ref b17], zar b0 kb0 8 (fun j => nI (mm 0 j)), zar b1 kb1 8 (fun j => nI (mm 1 j)), zar b2 kb2 40 (fun j => nI (mm 2 j)), zar b3 kb3 40 (fun j => nI (mm 3 j)), zar b4 kb4 40 (fun j => nI (mm 4 j)), zar b5 kb5 40 (fun j => nI (mm 5 j)), zar b6 kb6 40 (fun j => nI (mm 6 j)), zar b7 kb7 40 (fun j => nI (mm 7 j)), zar b8 kb8 40 (fun j => nI (mm 8 j)), zar b9 kb9 40 (fun j => nI (mm 9 j)), zar b10 kb10 40 (fun j => nI (mm 10 j)), zar b11 kb11 40 (fun j => nI (mm 11 j)), zar b14 kb14 12 (fun j => nI (va_up (zT1 Wd (zOwn (mm 7) (mm 4) gp i) (mm 4 i) (mm 2 i) u) ((mm 2 i) + u) ((zOwn (mm 7) (mm 4) gp i / mm 4 i) + (if u < zOwn (mm 7) (mm 4) gp i % mm 4 i then 1 else 0)) j)), zar b16 kb16 12 (upd bq (nI ((mm 2 i) + u)).toNatClampNeg (vp_nar .boolean (nI 1)))] := hD
            obtain ⟨w90, e_w⟩ : ∃ f9 : Nat → Int32, f9 = upd bq (nI ((mm 2 i) + u)).toNatClampNeg (vp_nar .boolean (nI 1)) := ⟨_, rfl⟩
            rw [← e_w] at hP hD
            have hP : va_P (dC, dI) vwCl [zob h0 6 [.int (nI mg), .ref b0, .ref b1, .int (nI n), .ref b2, .ref b3, .ref b4, .ref b5, .ref b6, .ref b7, .ref b8, .ref b9, .ref b10, .ref b11, .int (nI rg - nI 1), .int (nI rn), .int (nI ro), .int (nI sp), .int (nI gp), .int (nI fx), .ref b12, .ref b13, .ref b14, .ref b15, .ref b16, .ref b17], zar b0 kb0 8 (fun j => nI (mm 0 j)), zar b1 kb1 8 (fun j => nI (mm 1 j)), zar b2 kb2 40 (fun j => nI (mm 2 j)), zar b3 kb3 40 (fun j => nI (mm 3 j)), zar b4 kb4 40 (fun j => nI (mm 4 j)), zar b5 kb5 40 (fun j => nI (mm 5 j)), zar b6 kb6 40 (fun j => nI (mm 6 j)), zar b7 kb7 40 (fun j => nI (mm 7 j)), zar b8 kb8 40 (fun j => nI (mm 8 j)), zar b9 kb9 40 (fun j => nI (mm 9 j)), zar b10 kb10 40 (fun j => nI (mm 10 j)), zar b11 kb11 40 (fun j => nI (mm 11 j)), zar b14 kb14 12 (fun j => nI (va_up (zT1 Wd (zOwn (mm 7) (mm 4) gp i) (mm 4 i) (mm 2 i) u) ((mm 2 i) + u) ((zOwn (mm 7) (mm 4) gp i / mm 4 i) + (if u < zOwn (mm 7) (mm 4) gp i % mm 4 i then 1 else 0)) j)), zar b16 kb16 12 w90] H := hP
            have hD : va_D A [zob h0 6 [.int (nI mg), .ref b0, .ref b1, .int (nI n), .ref b2, .ref b3, .ref b4, .ref b5, .ref b6, .ref b7, .ref b8, .ref b9, .ref b10, .ref b11, .int (nI rg - nI 1), .int (nI rn), .int (nI ro), .int (nI sp), .int (nI gp), .int (nI fx), .ref b12, .ref b13, .ref b14, .ref b15, .ref b16, .ref b17], zar b0 kb0 8 (fun j => nI (mm 0 j)), zar b1 kb1 8 (fun j => nI (mm 1 j)), zar b2 kb2 40 (fun j => nI (mm 2 j)), zar b3 kb3 40 (fun j => nI (mm 3 j)), zar b4 kb4 40 (fun j => nI (mm 4 j)), zar b5 kb5 40 (fun j => nI (mm 5 j)), zar b6 kb6 40 (fun j => nI (mm 6 j)), zar b7 kb7 40 (fun j => nI (mm 7 j)), zar b8 kb8 40 (fun j => nI (mm 8 j)), zar b9 kb9 40 (fun j => nI (mm 9 j)), zar b10 kb10 40 (fun j => nI (mm 10 j)), zar b11 kb11 40 (fun j => nI (mm 11 j)), zar b14 kb14 12 (fun j => nI (va_up (zT1 Wd (zOwn (mm 7) (mm 4) gp i) (mm 4 i) (mm 2 i) u) ((mm 2 i) + u) ((zOwn (mm 7) (mm 4) gp i / mm 4 i) + (if u < zOwn (mm 7) (mm 4) gp i % mm 4 i then 1 else 0)) j)), zar b16 kb16 12 w90] := hD
            refine lv_iinc (k := 2) (v := nI (u + 1)) hx hb dMD_fixWidths_168 hl rfl (by rw [show Int32.ofInt 1 = nI 1 from by decide]; exact nI_add _ _) (Nat.le_of_ble_eq_true rfl) rfl (fun ls hl => ?_)
            have hl : lv_has ls 7 [(4, .int (nI (u + 1))), (6, .int (nI ((zOwn (mm 7) (mm 4) gp i / mm 4 i) + (if u < zOwn (mm 7) (mm 4) gp i % mm 4 i then 1 else 0)))), (5, .int (nI ((mm 2 i) + u))), (3, .int (nI (zOwn (mm 7) (mm 4) gp i))), (2, .int (nI i)), (1, .int (nI (zCo mm n))), (0, .ref h0)] := hl
            refine lv_goto (tgt := 71) hx hb dMD_fixWidths_171 rfl ?_
            rw [zT1_s] at hP hD
            exact uh w90 ls H locs ⟨lv_sub hl [0, 3, 4, 5, 6] rfl, z_setb (i := mm 2 i + u) (by omega) e_w hyI, hP, hD, hS⟩
          · refine lv_iload hx hb dMD_fixWidths_110 (lv_at hl 1 rfl) ?_
            refine lv_iload_n hx hb dMD_fixWidths_112 rfl (lv_at hl 2 rfl) ?_
            refine lv_aload_n hx hb dMD_fixWidths_113 rfl (lv_at hl 5 rfl) ?_
            refine va_get (D := (dC, dI)) (ci := 6) (v := .ref b4) (C := RMD) (T := TMD) (N := 26) hx hb hz in_MD hown hK hP 0 rfl rfl 6 (by decide) (hz _ wd_590) (fun _ h9 => h9) rfl dMD_fixWidths_114 ?_
            refine lv_iload_n hx hb dMD_fixWidths_117 rfl (lv_at hl 3 rfl) ?_
            refine va_iald hx hb hK hP 5 4 rfl rfl (vp_in_nI (by omega) (by omega)) dMD_fixWidths_118 ?_
            refine lv_topi (fun x91 e92 => ?_)
            have e92 : x91 = nI (mm 4 i) := e92.trans (by show nI (mm 4 (nI i).toNatClampNeg) = _; rw [nI_clamp (by omega)])
            subst e92
            have hmo := Nat.mod_lt (zOwn (mm 7) (mm 4) gp i) (show 0 < mm 4 i by omega)
            refine lv_irem hx hb dMD_fixWidths_119 (nI_ne0 (by omega) (by omega)) ?_
            refine lv_topi (fun x93 e94 => ?_)
            have e94 : x93 = nI (zOwn (mm 7) (mm 4) gp i % mm 4 i) := e94.trans (pk_rem (by omega) (by omega) (by omega))
            subst e94
            have t95 := nI_toInt (n := u) (by omega)
            have t96 := hm 4 i
            have t97 := nI_toInt (n := zOwn (mm 7) (mm 4) gp i % mm 4 i) (by omega)
            refine lv_icmp_ge (tgt := 127) hx hb dMD_fixWidths_120 rfl (fun h_r => ?_) (fun h_r => ?_)
            · have h_r := z_le h_r
              refine lv_iconst (v := nI 0) hx hb dMD_fixWidths_127 (by decide) ?_
              exact J128 _ (by rw [if_neg (by omega)])
            · have h_r := z_nle h_r
              refine lv_iconst (v := nI 1) hx hb dMD_fixWidths_123 (by decide) ?_
              refine lv_goto (tgt := 128) hx hb dMD_fixWidths_124 rfl ?_
              exact J128 _ (by rw [if_pos (by omega)])
      · refine lv_iconst (v := nI 0) hx hb dMD_fixWidths_68 (by decide) ?_
        refine lv_istore hx hb dMD_fixWidths_69 hl (Nat.le_of_ble_eq_true rfl) rfl (fun ls hl => ?_)
        have hl : lv_has ls 7 [(4, .int (nI 0)), (3, .int (nI (zOwn (mm 7) (mm 4) gp i))), (2, .int (nI i)), (1, .int (nI (zCo mm n))), (0, .ref h0)] := hl
        refine lv_iload hx hb dMD_fixWidths_71 (lv_at hl 0 rfl) ?_
        refine lv_aload_n hx hb dMD_fixWidths_73 rfl (lv_at hl 4 rfl) ?_
        refine va_get (D := (dC, dI)) (ci := 6) (v := .ref b4) (C := RMD) (T := TMD) (N := 26) hx hb hz in_MD hown hK hP 0 rfl rfl 6 (by decide) (hz _ wd_590) (fun _ h9 => h9) rfl dMD_fixWidths_74 ?_
        refine lv_iload_n hx hb dMD_fixWidths_77 rfl (lv_at hl 2 rfl) ?_
        refine va_iald hx hb hK hP 5 4 rfl rfl (vp_in_nI (by omega) (by omega)) dMD_fixWidths_78 ?_
        refine lv_topi (fun x99 e100 => ?_)
        have e100 : x99 = nI (mm 4 i) := e100.trans (by show nI (mm 4 (nI i).toNatClampNeg) = _; rw [nI_clamp (by omega)])
        subst e100
        have t101 := nI_toInt (n := 0) (by omega)
        have t102 := hm 4 i
        have t103 := nI_toInt (n := mm 4 i) (by omega)
        refine lv_icmp_ge (tgt := 174) hx hb dMD_fixWidths_79 rfl (fun h => by have h := z_le h; omega) (fun _ => ?_)
        refine lv_aload_n hx hb dMD_fixWidths_82 rfl (lv_at hl 4 rfl) ?_
        refine va_get (D := (dC, dI)) (ci := 6) (v := .ref b3) (C := RMD) (T := TMD) (N := 26) hx hb hz in_MD hown hK hP 0 rfl rfl 5 (by decide) (hz _ wd_589) (fun _ h9 => h9) rfl dMD_fixWidths_83 ?_
        refine lv_iload_n hx hb dMD_fixWidths_86 rfl (lv_at hl 2 rfl) ?_
        refine va_iald hx hb hK hP 4 3 rfl rfl (vp_in_nI (by omega) (by omega)) dMD_fixWidths_87 ?_
        refine lv_topi (fun x104 e105 => ?_)
        have e105 : x104 = nI (mm 3 i) := e105.trans (by show nI (mm 3 (nI i).toNatClampNeg) = _; rw [nI_clamp (by omega)])
        subst e105
        have t106 := hm 3 i
        have t107 := nI_toInt (n := mm 3 i) (by omega)
        have t108 : (0 : Int32).toInt = 0 := by decide
        refine lv_if_ne (tgt := 174) hx hb dMD_fixWidths_88 rfl (fun _ => ?_) (fun h => by have h := z_eq h; omega)
        refine lv_iinc (k := 2) (v := nI (i + 1)) hx hb dMD_fixWidths_174 hl rfl (by rw [show Int32.ofInt 1 = nI 1 from by decide]; exact nI_add _ _) (Nat.le_of_ble_eq_true rfl) rfl (fun ls hl => ?_)
        have hl : lv_has ls 7 [(2, .int (nI (i + 1))), (4, .int (nI 0)), (3, .int (nI (zOwn (mm 7) (mm 4) gp i))), (1, .int (nI (zCo mm n))), (0, .ref h0)] := hl
        refine lv_goto (tgt := 35) hx hb dMD_fixWidths_177 rfl ?_
        exact ih (Wd, bo) ls H locs ⟨lv_sub hl [0, 3, 4] rfl, ⟨hzI.1.trans (zFx_F h_t).symm, fun q hq => by rw [zGv_F h_t]; exact hzI.2 q hq⟩, hP, hD, hS⟩
  · intro i hi ih
    intro x9 ls H locs hI
    obtain ⟨fo, fg⟩ := x9
    obtain ⟨hl, hxI, hP, hD, hS⟩ := hI
    have hl : lv_has ls 7 [(2, .int (nI i)), (1, .int (nI (zCo mm n))), (0, .ref h0)] := hl
    have hP : va_P (dC, dI) vwCl [zob h0 6 [.int (nI mg), .ref b0, .ref b1, .int (nI n), .ref b2, .ref b3, .ref b4, .ref b5, .ref b6, .ref b7, .ref b8, .ref b9, .ref b10, .ref b11, .int (nI rg - nI 1), .int (nI rn), .int (nI ro), .int (nI sp), .int (nI gp), .int (nI fx), .ref b12, .ref b13, .ref b14, .ref b15, .ref b16, .ref b17], zar b0 kb0 8 (fun j => nI (mm 0 j)), zar b1 kb1 8 (fun j => nI (mm 1 j)), zar b2 kb2 40 (fun j => nI (mm 2 j)), zar b3 kb3 40 (fun j => nI (mm 3 j)), zar b4 kb4 40 (fun j => nI (mm 4 j)), zar b5 kb5 40 (fun j => nI (mm 5 j)), zar b6 kb6 40 (fun j => nI (mm 6 j)), zar b7 kb7 40 (fun j => nI (mm 7 j)), zar b8 kb8 40 (fun j => nI (mm 8 j)), zar b9 kb9 40 (fun j => nI (mm 9 j)), zar b10 kb10 40 (fun j => nI (mm 10 j)), zar b11 kb11 40 (fun j => nI (mm 11 j)), zar b14 kb14 12 fo, zar b16 kb16 12 fg] H := hP
    have hD : va_D A [zob h0 6 [.int (nI mg), .ref b0, .ref b1, .int (nI n), .ref b2, .ref b3, .ref b4, .ref b5, .ref b6, .ref b7, .ref b8, .ref b9, .ref b10, .ref b11, .int (nI rg - nI 1), .int (nI rn), .int (nI ro), .int (nI sp), .int (nI gp), .int (nI fx), .ref b12, .ref b13, .ref b14, .ref b15, .ref b16, .ref b17], zar b0 kb0 8 (fun j => nI (mm 0 j)), zar b1 kb1 8 (fun j => nI (mm 1 j)), zar b2 kb2 40 (fun j => nI (mm 2 j)), zar b3 kb3 40 (fun j => nI (mm 3 j)), zar b4 kb4 40 (fun j => nI (mm 4 j)), zar b5 kb5 40 (fun j => nI (mm 5 j)), zar b6 kb6 40 (fun j => nI (mm 6 j)), zar b7 kb7 40 (fun j => nI (mm 7 j)), zar b8 kb8 40 (fun j => nI (mm 8 j)), zar b9 kb9 40 (fun j => nI (mm 9 j)), zar b10 kb10 40 (fun j => nI (mm 10 j)), zar b11 kb11 40 (fun j => nI (mm 11 j)), zar b14 kb14 12 fo, zar b16 kb16 12 fg] := hD
    refine lv_iload_n hx hb dMD_fixWidths_7 rfl (lv_at hl 0 rfl) ?_
    refine lv_bipush (v := nI 12) hx hb dMD_fixWidths_8 (by decide) ?_
    have t109 := nI_toInt (n := i) (by omega)
    have t110 := nI_toInt (n := 12) (by omega)
    refine lv_icmp_ge (tgt := 33) hx hb dMD_fixWidths_10 rfl (fun h => by have h := z_le h; omega) (fun _ => ?_)
    refine lv_aload_n hx hb dMD_fixWidths_13 rfl (lv_at hl 2 rfl) ?_
    refine va_get (D := (dC, dI)) (ci := 6) (v := .ref b14) (C := RMD) (T := TMD) (N := 26) hx hb hz in_MD hown hK hP 0 rfl rfl 22 (by decide) (hz _ wd_606) (fun _ h9 => h9) rfl dMD_fixWidths_14 ?_
    refine lv_iload_n hx hb dMD_fixWidths_17 rfl (lv_at hl 0 rfl) ?_
    refine lv_iconst (v := nI 0) hx hb dMD_fixWidths_18 (by decide) ?_
    refine va_iast hx hb hK hP hD hS 13 12 rfl rfl (vp_in_nI (by omega) (by omega)) dMD_fixWidths_19 (fun H locs hP hD hS => ?_)
    have hP : va_P (dC, dI) vwCl [zob h0 6 [.int (nI mg), .ref b0, .ref b1, .int (nI n), .ref b2, .ref b3, .ref b4, .ref b5, .ref b6, .ref b7, .ref b8, .ref b9, .ref b10, .ref b11, .int (nI rg - nI 1), .int (nI rn), .int (nI ro), .int (nI sp), .int (nI gp), .int (nI fx), .ref b12, .ref b13, .ref b14, .ref b15, .ref b16, .ref b17], zar b0 kb0 8 (fun j => nI (mm 0 j)), zar b1 kb1 8 (fun j => nI (mm 1 j)), zar b2 kb2 40 (fun j => nI (mm 2 j)), zar b3 kb3 40 (fun j => nI (mm 3 j)), zar b4 kb4 40 (fun j => nI (mm 4 j)), zar b5 kb5 40 (fun j => nI (mm 5 j)), zar b6 kb6 40 (fun j => nI (mm 6 j)), zar b7 kb7 40 (fun j => nI (mm 7 j)), zar b8 kb8 40 (fun j => nI (mm 8 j)), zar b9 kb9 40 (fun j => nI (mm 9 j)), zar b10 kb10 40 (fun j => nI (mm 10 j)), zar b11 kb11 40 (fun j => nI (mm 11 j)), zar b14 kb14 12 (upd fo (nI i).toNatClampNeg (nI 0)), zar b16 kb16 12 fg] H := hP
    have hD : va_D A [zob h0 6 [.int (nI mg), .ref b0, .ref b1, .int (nI n), .ref b2, .ref b3, .ref b4, .ref b5, .ref b6, .ref b7, .ref b8, .ref b9, .ref b10, .ref b11, .int (nI rg - nI 1), .int (nI rn), .int (nI ro), .int (nI sp), .int (nI gp), .int (nI fx), .ref b12, .ref b13, .ref b14, .ref b15, .ref b16, .ref b17], zar b0 kb0 8 (fun j => nI (mm 0 j)), zar b1 kb1 8 (fun j => nI (mm 1 j)), zar b2 kb2 40 (fun j => nI (mm 2 j)), zar b3 kb3 40 (fun j => nI (mm 3 j)), zar b4 kb4 40 (fun j => nI (mm 4 j)), zar b5 kb5 40 (fun j => nI (mm 5 j)), zar b6 kb6 40 (fun j => nI (mm 6 j)), zar b7 kb7 40 (fun j => nI (mm 7 j)), zar b8 kb8 40 (fun j => nI (mm 8 j)), zar b9 kb9 40 (fun j => nI (mm 9 j)), zar b10 kb10 40 (fun j => nI (mm 10 j)), zar b11 kb11 40 (fun j => nI (mm 11 j)), zar b14 kb14 12 (upd fo (nI i).toNatClampNeg (nI 0)), zar b16 kb16 12 fg] := hD
    refine lv_aload_n hx hb dMD_fixWidths_20 rfl (lv_at hl 2 rfl) ?_
    refine va_get (D := (dC, dI)) (ci := 6) (v := .ref b16) (C := RMD) (T := TMD) (N := 26) hx hb hz in_MD hown hK hP 0 rfl rfl 24 (by decide) (hz _ wd_608) (fun _ h9 => h9) rfl dMD_fixWidths_21 ?_
    refine lv_iload_n hx hb dMD_fixWidths_24 rfl (lv_at hl 0 rfl) ?_
    refine lv_iconst (v := nI 0) hx hb dMD_fixWidths_25 (by decide) ?_
    refine va_zast hx hb hK hP hD hS 14 13 rfl rfl (vp_in_nI (by omega) (by omega)) dMD_fixWidths_26 (fun H locs hP hD hS => ?_)
    have hP : va_P (dC, dI) vwCl [zob h0 6 [.int (nI mg), .ref b0, .ref b1, .int (nI n), .ref b2, .ref b3, .ref b4, .ref b5, .ref b6, .ref b7, .ref b8, .ref b9, .ref b10, .ref b11, .int (nI rg - nI 1), .int (nI rn), .int (nI ro), .int (nI sp), .int (nI gp), .int (nI fx), .ref b12, .ref b13, .ref b14, .ref b15, .ref b16, .ref b17], zar b0 kb0 8 (fun j => nI (mm 0 j)), zar b1 kb1 8 (fun j => nI (mm 1 j)), zar b2 kb2 40 (fun j => nI (mm 2 j)), zar b3 kb3 40 (fun j => nI (mm 3 j)), zar b4 kb4 40 (fun j => nI (mm 4 j)), zar b5 kb5 40 (fun j => nI (mm 5 j)), zar b6 kb6 40 (fun j => nI (mm 6 j)), zar b7 kb7 40 (fun j => nI (mm 7 j)), zar b8 kb8 40 (fun j => nI (mm 8 j)), zar b9 kb9 40 (fun j => nI (mm 9 j)), zar b10 kb10 40 (fun j => nI (mm 10 j)), zar b11 kb11 40 (fun j => nI (mm 11 j)), zar b14 kb14 12 (upd fo (nI i).toNatClampNeg (nI 0)), zar b16 kb16 12 (upd fg (nI i).toNatClampNeg (vp_nar .boolean (nI 0)))] H := hP
    have hD : va_D A [zob h0 6 [.int (nI mg), .ref b0, .ref b1, .int (nI n), .ref b2, .ref b3, .ref b4, .ref b5, .ref b6, .ref b7, .ref b8, .ref b9, .ref b10, .ref b11, .int (nI rg - nI 1), .int (nI rn), .int (nI ro), .int (nI sp), .int (nI gp), .int (nI fx), .ref b12, .ref b13, .ref b14, .ref b15, .ref b16, .ref b17], zar b0 kb0 8 (fun j => nI (mm 0 j)), zar b1 kb1 8 (fun j => nI (mm 1 j)), zar b2 kb2 40 (fun j => nI (mm 2 j)), zar b3 kb3 40 (fun j => nI (mm 3 j)), zar b4 kb4 40 (fun j => nI (mm 4 j)), zar b5 kb5 40 (fun j => nI (mm 5 j)), zar b6 kb6 40 (fun j => nI (mm 6 j)), zar b7 kb7 40 (fun j => nI (mm 7 j)), zar b8 kb8 40 (fun j => nI (mm 8 j)), zar b9 kb9 40 (fun j => nI (mm 9 j)), zar b10 kb10 40 (fun j => nI (mm 10 j)), zar b11 kb11 40 (fun j => nI (mm 11 j)), zar b14 kb14 12 (upd fo (nI i).toNatClampNeg (nI 0)), zar b16 kb16 12 (upd fg (nI i).toNatClampNeg (vp_nar .boolean (nI 0)))] := hD
    obtain ⟨w111, e_w⟩ : ∃ f9 : Nat → Int32, f9 = upd fg (nI i).toNatClampNeg (vp_nar .boolean (nI 0)) := ⟨_, rfl⟩
    rw [← e_w] at hP hD
    have hP : va_P (dC, dI) vwCl [zob h0 6 [.int (nI mg), .ref b0, .ref b1, .int (nI n), .ref b2, .ref b3, .ref b4, .ref b5, .ref b6, .ref b7, .ref b8, .ref b9, .ref b10, .ref b11, .int (nI rg - nI 1), .int (nI rn), .int (nI ro), .int (nI sp), .int (nI gp), .int (nI fx), .ref b12, .ref b13, .ref b14, .ref b15, .ref b16, .ref b17], zar b0 kb0 8 (fun j => nI (mm 0 j)), zar b1 kb1 8 (fun j => nI (mm 1 j)), zar b2 kb2 40 (fun j => nI (mm 2 j)), zar b3 kb3 40 (fun j => nI (mm 3 j)), zar b4 kb4 40 (fun j => nI (mm 4 j)), zar b5 kb5 40 (fun j => nI (mm 5 j)), zar b6 kb6 40 (fun j => nI (mm 6 j)), zar b7 kb7 40 (fun j => nI (mm 7 j)), zar b8 kb8 40 (fun j => nI (mm 8 j)), zar b9 kb9 40 (fun j => nI (mm 9 j)), zar b10 kb10 40 (fun j => nI (mm 10 j)), zar b11 kb11 40 (fun j => nI (mm 11 j)), zar b14 kb14 12 (upd fo (nI i).toNatClampNeg (nI 0)), zar b16 kb16 12 w111] H := hP
    have hD : va_D A [zob h0 6 [.int (nI mg), .ref b0, .ref b1, .int (nI n), .ref b2, .ref b3, .ref b4, .ref b5, .ref b6, .ref b7, .ref b8, .ref b9, .ref b10, .ref b11, .int (nI rg - nI 1), .int (nI rn), .int (nI ro), .int (nI sp), .int (nI gp), .int (nI fx), .ref b12, .ref b13, .ref b14, .ref b15, .ref b16, .ref b17], zar b0 kb0 8 (fun j => nI (mm 0 j)), zar b1 kb1 8 (fun j => nI (mm 1 j)), zar b2 kb2 40 (fun j => nI (mm 2 j)), zar b3 kb3 40 (fun j => nI (mm 3 j)), zar b4 kb4 40 (fun j => nI (mm 4 j)), zar b5 kb5 40 (fun j => nI (mm 5 j)), zar b6 kb6 40 (fun j => nI (mm 6 j)), zar b7 kb7 40 (fun j => nI (mm 7 j)), zar b8 kb8 40 (fun j => nI (mm 8 j)), zar b9 kb9 40 (fun j => nI (mm 9 j)), zar b10 kb10 40 (fun j => nI (mm 10 j)), zar b11 kb11 40 (fun j => nI (mm 11 j)), zar b14 kb14 12 (upd fo (nI i).toNatClampNeg (nI 0)), zar b16 kb16 12 w111] := hD
    refine lv_iinc (k := 0) (v := nI (i + 1)) hx hb dMD_fixWidths_27 hl rfl (by rw [show Int32.ofInt 1 = nI 1 from by decide]; exact nI_add _ _) (Nat.le_of_ble_eq_true rfl) rfl (fun ls hl => ?_)
    have hl : lv_has ls 7 [(2, .int (nI (i + 1))), (1, .int (nI (zCo mm n))), (0, .ref h0)] := hl
    refine lv_goto (tgt := 7) hx hb dMD_fixWidths_30 rfl ?_
    exact ih (upd fo (nI i).toNatClampNeg (nI 0), w111) ls H locs ⟨lv_sub hl [0, 1, 2] rfl, ⟨z_fill (by omega) hxI.1, z_fillb (by omega) e_w hxI.2⟩, hP, hD, hS⟩
