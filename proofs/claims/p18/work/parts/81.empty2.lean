set_option maxHeartbeats 4000000 in
set_option maxRecDepth 100000 in
theorem e_SC_columns (l : Launch) (dC : Nat → ClassId) (dI : Nat → Nat → Nat) (h0 : Nat) (wd : Nat) (hh : Nat) (sp : Nat) (gp : Nat) (fx : Nat) (g : Nat) (al : Nat) (gr : Nat) (gs : Nat) (bg : Nat) (re : Nat) (t : Nat) (mo : Int32) (hg : gr ≤ 1000 ∧ gs ≤ 1000 ∧ bg ≤ 1000 ∧ re ≤ 1000) : zp_M l ySC_columns wSC_columns ({ frames := 1, cells := 0, slots := 0, locals := 20 }) [.ref h0] (dC, dI) vwCl [zob h0 0 [.ref g, .ref wd, .ref hh, .int (nI sp), .int (nI gp), .int (nI fx)], zob g 1 [.ref al, .int (nI gr), .int (nI gs), .int (nI bg), .int (nI re), .int (nI 0)], zob al 2 [.ref t, .int (nI 0), .int mo]] [] (fun _ => True) (fun r => r = nI 0) := by
  refine zp_head (cc := cSC_columns) (maxL := 1) (ret := (some .int)) (by decide +kernel) rfl (Nat.le_of_ble_eq_true rfl) ?_
  intro p e s m below meth c ls F hP hK hX hl
  obtain ⟨hx, hb, hml, hr, hlocks, hown, hts⟩ := F
  have hown : s.vm.findClass "SpannedCells" = some m.cls := hown
  have hz : ∀ w9 ∈ zT, w9.before [.ref h0].toArray s = true := fun w9 h => hts w9 (List.mem_cons_of_mem _ h)
  have hl : lv_has ls 1 [(0, .ref h0)] := hl
  refine z_q (fun Q hQ => ?_)
  refine lv_aload_n hx hb dSC_columns_0 rfl (lv_at hl 0 rfl) ?_
  refine va_get (D := (dC, dI)) (ci := 0) (v := .ref g) (C := RSC) (T := TSC) (N := 6) hx hb hz in_SC hown hK hP 0 rfl rfl 0 (by decide) (hz _ wd_150) (fun _ h9 => h9) rfl dSC_columns_1 ?_
  refine vp_callSi (W.runV (As := []) (rest := []) ⟨hx, hb, hml, hown, hz⟩ (e_GR_columnCount l dC dI g al gr gs bg re ) (cwV 0 hz (z_gV wd_391 wd_392 wd_393 wd_30 wd_394) rfl rfl rfl (by decide +kernel) ⟨Nat.le_of_ble_eq_true rfl, Nat.le_of_ble_eq_true rfl⟩) (zr_preV hK (hP.sub [1] rfl) (va_recv (q0 := 1) hK hP (q := (RGR, TGR, 6)) rfl rfl) [] rfl z_true (fun _ _ _ => trivial)) rfl rfl hl.1 rfl (lv_room (Nat.le_of_ble_eq_true rfl)) dSC_columns_4 ⟨Nat.le_of_ble_eq_true rfl, Nat.le_of_ble_eq_true rfl⟩) (fun r1 h_r1 => ?_)
  have h_r1 : r1 = nI 0 := h_r1
  subst h_r1
  subst hQ
  exact zp_iret hx hb hr hlocks (rfl) dSC_columns_7

set_option maxHeartbeats 4000000 in
set_option maxRecDepth 100000 in
theorem e_SC_rows (l : Launch) (dC : Nat → ClassId) (dI : Nat → Nat → Nat) (h0 : Nat) (wd : Nat) (hh : Nat) (sp : Nat) (gp : Nat) (fx : Nat) (g : Nat) (al : Nat) (gr : Nat) (gs : Nat) (bg : Nat) (re : Nat) (t : Nat) (mo : Int32) (hg : gr ≤ 1000 ∧ gs ≤ 1000 ∧ bg ≤ 1000 ∧ re ≤ 1000) : zp_M l ySC_rows wSC_rows ({ frames := 1, cells := 0, slots := 0, locals := 20 }) [.ref h0] (dC, dI) vwCl [zob h0 0 [.ref g, .ref wd, .ref hh, .int (nI sp), .int (nI gp), .int (nI fx)], zob g 1 [.ref al, .int (nI gr), .int (nI gs), .int (nI bg), .int (nI re), .int (nI 0)], zob al 2 [.ref t, .int (nI 0), .int mo]] [] (fun _ => True) (fun r => r = nI re) := by
  refine zp_head (cc := cSC_rows) (maxL := 1) (ret := (some .int)) (by decide +kernel) rfl (Nat.le_of_ble_eq_true rfl) ?_
  intro p e s m below meth c ls F hP hK hX hl
  obtain ⟨hx, hb, hml, hr, hlocks, hown, hts⟩ := F
  have hown : s.vm.findClass "SpannedCells" = some m.cls := hown
  have hz : ∀ w9 ∈ zT, w9.before [.ref h0].toArray s = true := fun w9 h => hts w9 (List.mem_cons_of_mem _ h)
  have hl : lv_has ls 1 [(0, .ref h0)] := hl
  refine z_q (fun Q hQ => ?_)
  refine lv_aload_n hx hb dSC_rows_0 rfl (lv_at hl 0 rfl) ?_
  refine va_get (D := (dC, dI)) (ci := 0) (v := .ref g) (C := RSC) (T := TSC) (N := 6) hx hb hz in_SC hown hK hP 0 rfl rfl 0 (by decide) (hz _ wd_150) (fun _ h9 => h9) rfl dSC_rows_1 ?_
  refine vp_callSi (W.runV (As := []) (rest := []) ⟨hx, hb, hml, hown, hz⟩ (e_GR_rowCount l dC dI g al gr gs bg re ) (cwV 0 hz (z_gV wd_399 wd_400 wd_401 wd_30 wd_402) rfl rfl rfl (by decide +kernel) ⟨Nat.le_of_ble_eq_true rfl, Nat.le_of_ble_eq_true rfl⟩) (zr_preV hK (hP.sub [1] rfl) (va_recv (q0 := 1) hK hP (q := (RGR, TGR, 6)) rfl rfl) [] rfl z_true (fun _ _ _ => trivial)) rfl rfl hl.1 rfl (lv_room (Nat.le_of_ble_eq_true rfl)) dSC_rows_4 ⟨Nat.le_of_ble_eq_true rfl, Nat.le_of_ble_eq_true rfl⟩) (fun r1 h_r1 => ?_)
  have h_r1 : r1 = nI re := h_r1
  subst h_r1
  subst hQ
  exact zp_iret hx hb hr hlocks (rfl) dSC_rows_7

set_option maxHeartbeats 4000000 in
set_option maxRecDepth 100000 in
theorem e_SC_slot (l : Launch) (dC : Nat → ClassId) (dI : Nat → Nat → Nat) (h0 : Nat) (wd : Nat) (hh : Nat) (sp : Nat) (gp : Nat) (fx : Nat) (g : Nat) (al : Nat) (gr : Nat) (gs : Nat) (bg : Nat) (re : Nat) (t : Nat) (mo : Int32) (x : Int32) (y : Int32) (hg : gr ≤ 1000 ∧ gs ≤ 1000 ∧ bg ≤ 1000 ∧ re ≤ 1000) : zp_M l ySC_slot wSC_slot ({ frames := 2, cells := 0, slots := 0, locals := 43 }) [.ref h0, .int x, .int y] (dC, dI) vwCl [zob h0 0 [.ref g, .ref wd, .ref hh, .int (nI sp), .int (nI gp), .int (nI fx)], zob g 1 [.ref al, .int (nI gr), .int (nI gs), .int (nI bg), .int (nI re), .int (nI 0)], zob al 2 [.ref t, .int (nI 0), .int mo]] [] (fun _ => True) (fun r => r = -1) := by
  refine zp_head (cc := cSC_slot) (maxL := 3) (ret := (some .int)) (by decide +kernel) rfl (Nat.le_of_ble_eq_true rfl) ?_
  intro p e s m below meth c ls F hP hK hX hl
  obtain ⟨hx, hb, hml, hr, hlocks, hown, hts⟩ := F
  have hown : s.vm.findClass "SpannedCells" = some m.cls := hown
  have hz : ∀ w9 ∈ zT, w9.before [.ref h0, .int x, .int y].toArray s = true := fun w9 h => hts w9 (List.mem_cons_of_mem _ h)
  have hl : lv_has ls 3 [(0, .ref h0), (1, .int x), (2, .int y)] := hl
  refine z_q (fun Q hQ => ?_)
  refine lv_aload_n hx hb dSC_slot_0 rfl (lv_at hl 0 rfl) ?_
  refine va_get (D := (dC, dI)) (ci := 0) (v := .ref g) (C := RSC) (T := TSC) (N := 6) hx hb hz in_SC hown hK hP 0 rfl rfl 0 (by decide) (hz _ wd_150) (fun _ h9 => h9) rfl dSC_slot_1 ?_
  refine lv_iload_n hx hb dSC_slot_4 rfl (lv_at hl 1 rfl) ?_
  refine lv_iload_n hx hb dSC_slot_5 rfl (lv_at hl 2 rfl) ?_
  refine vp_callSi (W.runV (As := [.int x, .int y]) (rest := []) ⟨hx, hb, hml, hown, hz⟩ (e_GR_ownerOf l dC dI g al gr gs bg re t mo x y (by omega)) (cwV 2 hz (z_gV wd_407 wd_231 wd_232 wd_30 wd_233) rfl rfl rfl (by decide +kernel) ⟨Nat.le_of_ble_eq_true rfl, Nat.le_of_ble_eq_true rfl⟩) (zr_preV hK (hP.sub [1, 2] rfl) (va_recv (q0 := 1) hK hP (q := (RGR, TGR, 6)) rfl rfl) [] rfl z_true (fun _ _ _ => trivial)) rfl rfl hl.1 rfl (lv_room (Nat.le_of_ble_eq_true rfl)) dSC_slot_6 ⟨Nat.le_of_ble_eq_true rfl, Nat.le_of_ble_eq_true rfl⟩) (fun r1 h_r1 => ?_)
  have h_r1 : r1 = -1 := h_r1
  subst h_r1
  subst hQ
  exact zp_iret hx hb hr hlocks (rfl) dSC_slot_9

set_option maxHeartbeats 4000000 in
set_option maxRecDepth 100000 in
theorem e_SC_overlaps (l : Launch) (dC : Nat → ClassId) (dI : Nat → Nat → Nat) (h0 : Nat) (wd : Nat) (hh : Nat) (sp : Nat) (gp : Nat) (fx : Nat) (g : Nat) (al : Nat) (gr : Nat) (gs : Nat) (bg : Nat) (re : Nat) (t : Nat) (mo : Int32) (hg : gr ≤ 1000 ∧ gs ≤ 1000 ∧ bg ≤ 1000 ∧ re ≤ 1000) : zp_M l ySC_overlaps wSC_overlaps ({ frames := 2, cells := 0, slots := 0, locals := 45 }) [.ref h0] (dC, dI) vwCl [zob h0 0 [.ref g, .ref wd, .ref hh, .int (nI sp), .int (nI gp), .int (nI fx)], zob g 1 [.ref al, .int (nI gr), .int (nI gs), .int (nI bg), .int (nI re), .int (nI 0)], zob al 2 [.ref t, .int (nI 0), .int mo]] [] (fun _ => True) (fun r => r = nI 0 - nI 0) := by
  refine zp_head (cc := cSC_overlaps) (maxL := 1) (ret := (some .int)) (by decide +kernel) rfl (Nat.le_of_ble_eq_true rfl) ?_
  intro p e s m below meth c ls F hP hK hX hl
  obtain ⟨hx, hb, hml, hr, hlocks, hown, hts⟩ := F
  have hown : s.vm.findClass "SpannedCells" = some m.cls := hown
  have hz : ∀ w9 ∈ zT, w9.before [.ref h0].toArray s = true := fun w9 h => hts w9 (List.mem_cons_of_mem _ h)
  have hl : lv_has ls 1 [(0, .ref h0)] := hl
  refine z_q (fun Q hQ => ?_)
  refine lv_aload_n hx hb dSC_overlaps_0 rfl (lv_at hl 0 rfl) ?_
  refine va_get (D := (dC, dI)) (ci := 0) (v := .ref g) (C := RSC) (T := TSC) (N := 6) hx hb hz in_SC hown hK hP 0 rfl rfl 0 (by decide) (hz _ wd_150) (fun _ h9 => h9) rfl dSC_overlaps_1 ?_
  refine vp_callSi (W.runV (As := []) (rest := []) ⟨hx, hb, hml, hown, hz⟩ (e_GR_countOverlaps l dC dI g al gr gs bg re t mo (by omega)) (cwV 0 hz (z_gV wd_412 wd_413 wd_414 wd_30 wd_415) rfl rfl rfl (by decide +kernel) ⟨Nat.le_of_ble_eq_true rfl, Nat.le_of_ble_eq_true rfl⟩) (zr_preV hK (hP.sub [1, 2] rfl) (va_recv (q0 := 1) hK hP (q := (RGR, TGR, 6)) rfl rfl) [] rfl z_true (fun _ _ _ => trivial)) rfl rfl hl.1 rfl (lv_room (Nat.le_of_ble_eq_true rfl)) dSC_overlaps_4 ⟨Nat.le_of_ble_eq_true rfl, Nat.le_of_ble_eq_true rfl⟩) (fun r1 h_r1 => ?_)
  have h_r1 : r1 = nI 0 - nI 0 := h_r1
  subst h_r1
  subst hQ
  exact zp_iret hx hb hr hlocks (rfl) dSC_overlaps_7

set_option maxHeartbeats 4000000 in
set_option maxRecDepth 100000 in
theorem e_SC_empties (l : Launch) (dC : Nat → ClassId) (dI : Nat → Nat → Nat) (h0 : Nat) (wd : Nat) (hh : Nat) (sp : Nat) (gp : Nat) (fx : Nat) (g : Nat) (al : Nat) (gr : Nat) (gs : Nat) (bg : Nat) (re : Nat) (t : Nat) (mo : Int32) (hg : gr ≤ 1000 ∧ gs ≤ 1000 ∧ bg ≤ 1000 ∧ re ≤ 1000) : zp_M l ySC_empties wSC_empties ({ frames := 3, cells := 0, slots := 0, locals := 64 }) [.ref h0] (dC, dI) vwCl [zob h0 0 [.ref g, .ref wd, .ref hh, .int (nI sp), .int (nI gp), .int (nI fx)], zob g 1 [.ref al, .int (nI gr), .int (nI gs), .int (nI bg), .int (nI re), .int (nI 0)], zob al 2 [.ref t, .int (nI 0), .int mo]] [] (fun _ => True) (fun r => r = nI (0 + 100 * re)) := by
  refine zp_head (cc := cSC_empties) (maxL := 1) (ret := (some .int)) (by decide +kernel) rfl (Nat.le_of_ble_eq_true rfl) ?_
  intro p e s m below meth c ls F hP hK hX hl
  obtain ⟨hx, hb, hml, hr, hlocks, hown, hts⟩ := F
  have hown : s.vm.findClass "SpannedCells" = some m.cls := hown
  have hz : ∀ w9 ∈ zT, w9.before [.ref h0].toArray s = true := fun w9 h => hts w9 (List.mem_cons_of_mem _ h)
  have hl : lv_has ls 1 [(0, .ref h0)] := hl
  refine z_q (fun Q hQ => ?_)
  refine lv_aload_n hx hb dSC_empties_0 rfl (lv_at hl 0 rfl) ?_
  refine va_get (D := (dC, dI)) (ci := 0) (v := .ref g) (C := RSC) (T := TSC) (N := 6) hx hb hz in_SC hown hK hP 0 rfl rfl 0 (by decide) (hz _ wd_150) (fun _ h9 => h9) rfl dSC_empties_1 ?_
  refine vp_callSi (W.runV (As := []) (rest := []) ⟨hx, hb, hml, hown, hz⟩ (e_GR_countEmptyColumns l dC dI g al gr gs bg re t mo (by omega)) (cwV 0 hz (z_gV wd_424 wd_425 wd_426 wd_30 wd_427) rfl rfl rfl (by decide +kernel) ⟨Nat.le_of_ble_eq_true rfl, Nat.le_of_ble_eq_true rfl⟩) (zr_preV hK (hP.sub [1, 2] rfl) (va_recv (q0 := 1) hK hP (q := (RGR, TGR, 6)) rfl rfl) [] rfl z_true (fun _ _ _ => trivial)) rfl rfl hl.1 rfl (lv_room (Nat.le_of_ble_eq_true rfl)) dSC_empties_4 ⟨Nat.le_of_ble_eq_true rfl, Nat.le_of_ble_eq_true rfl⟩) (fun r1 h_r1 => ?_)
  have h_r1 : r1 = nI 0 := h_r1
  subst h_r1
  refine lv_bipush (v := nI 100) hx hb dSC_empties_7 (by decide) ?_
  refine lv_aload_n hx hb dSC_empties_9 rfl (lv_at hl 0 rfl) ?_
  refine va_get (D := (dC, dI)) (ci := 0) (v := .ref g) (C := RSC) (T := TSC) (N := 6) hx hb hz in_SC hown hK hP 0 rfl rfl 0 (by decide) (hz _ wd_150) (fun _ h9 => h9) rfl dSC_empties_10 ?_
  refine vp_callSi (W.runV (As := []) (rest := [.int (nI 100), .int (nI 0)]) ⟨hx, hb, hml, hown, hz⟩ (e_GR_countEmptyRows l dC dI g al gr gs bg re t mo (by omega)) (cwV 0 hz (z_gV wd_432 wd_433 wd_434 wd_30 wd_435) rfl rfl rfl (by decide +kernel) ⟨Nat.le_of_ble_eq_true rfl, Nat.le_of_ble_eq_true rfl⟩) (zr_preV hK (hP.sub [1, 2] rfl) (va_recv (q0 := 1) hK hP (q := (RGR, TGR, 6)) rfl rfl) [] rfl z_true (fun _ _ _ => trivial)) rfl rfl hl.1 rfl (lv_room (Nat.le_of_ble_eq_true rfl)) dSC_empties_13 ⟨Nat.le_of_ble_eq_true rfl, Nat.le_of_ble_eq_true rfl⟩) (fun r2 h_r2 => ?_)
  have h_r2 : r2 = nI re := h_r2
  subst h_r2
  refine lv_imul hx hb dSC_empties_16 ?_
  refine lv_topi (fun x3 e4 => ?_)
  have e4 : x3 = nI (100 * re) := e4.trans (pk_mul _ _)
  subst e4
  refine lv_iadd hx hb dSC_empties_17 ?_
  refine lv_topi (fun x5 e6 => ?_)
  have e6 : x5 = nI (0 + (100 * re)) := e6.trans (nI_add _ _)
  subst e6
  subst hQ
  exact zp_iret hx hb hr hlocks (rfl) dSC_empties_18

set_option maxHeartbeats 4000000 in
set_option maxRecDepth 100000 in
theorem e_SC_span (l : Launch) (dC : Nat → ClassId) (dI : Nat → Nat → Nat) (h0 : Nat) (wd : Nat) (hh : Nat) (sp : Nat) (gp : Nat) (fx : Nat) (g : Nat) (al : Nat) (gr : Nat) (gs : Nat) (bg : Nat) (re : Nat) (t : Nat) (mo : Int32) (k : Int32) (hg : gr ≤ 1000 ∧ gs ≤ 1000 ∧ bg ≤ 1000 ∧ re ≤ 1000) : zp_M l ySC_span wSC_span ({ frames := 2, cells := 0, slots := 0, locals := 41 }) [.ref h0, .int k] (dC, dI) vwCl [zob h0 0 [.ref g, .ref wd, .ref hh, .int (nI sp), .int (nI gp), .int (nI fx)], zob g 1 [.ref al, .int (nI gr), .int (nI gs), .int (nI bg), .int (nI re), .int (nI 0)], zob al 2 [.ref t, .int (nI 0), .int mo]] [] (fun _ => True) (fun r => r = -1) := by
  refine zp_head (cc := cSC_span) (maxL := 3) (ret := (some .int)) (by decide +kernel) rfl (Nat.le_of_ble_eq_true rfl) ?_
  intro p e s m below meth c ls F hP hK hX hl
  obtain ⟨hx, hb, hml, hr, hlocks, hown, hts⟩ := F
  have hown : s.vm.findClass "SpannedCells" = some m.cls := hown
  have hz : ∀ w9 ∈ zT, w9.before [.ref h0, .int k].toArray s = true := fun w9 h => hts w9 (List.mem_cons_of_mem _ h)
  have hl : lv_has ls 3 [(0, .ref h0), (1, .int k)] := hl
  refine z_q (fun Q hQ => ?_)
  refine lv_aload_n hx hb dSC_span_0 rfl (lv_at hl 0 rfl) ?_
  refine va_get (D := (dC, dI)) (ci := 0) (v := .ref g) (C := RSC) (T := TSC) (N := 6) hx hb hz in_SC hown hK hP 0 rfl rfl 0 (by decide) (hz _ wd_150) (fun _ h9 => h9) rfl dSC_span_1 ?_
  refine lv_iload_n hx hb dSC_span_4 rfl (lv_at hl 1 rfl) ?_
  refine vp_callSi (W.runV (As := [.int k]) (rest := []) ⟨hx, hb, hml, hown, hz⟩ (e_GR_hasCell l dC dI g al gr gs bg re t mo k (by omega)) (cwV 1 hz (z_gV wd_355 wd_356 wd_357 wd_30 wd_358) rfl rfl rfl (by decide +kernel) ⟨Nat.le_of_ble_eq_true rfl, Nat.le_of_ble_eq_true rfl⟩) (zr_preV hK (hP.sub [1, 2] rfl) (va_recv (q0 := 1) hK hP (q := (RGR, TGR, 6)) rfl rfl) [] rfl z_true (fun _ _ _ => trivial)) rfl rfl hl.1 rfl (lv_room (Nat.le_of_ble_eq_true rfl)) dSC_span_5 ⟨Nat.le_of_ble_eq_true rfl, Nat.le_of_ble_eq_true rfl⟩) (fun r1 h_r1 => ?_)
  have h_r1 : r1 = 0 := h_r1
  subst h_r1
  refine lv_if_ne (tgt := 13) hx hb dSC_span_8 rfl (fun h => absurd (by decide) h) (fun _ => ?_)
  refine lv_iconst (v := (-1)) hx hb dSC_span_11 (by decide) ?_
  subst hQ
  exact zp_iret hx hb hr hlocks (rfl) dSC_span_12

set_option maxHeartbeats 4000000 in
set_option maxRecDepth 100000 in
theorem e_SC_edge (l : Launch) (dC : Nat → ClassId) (dI : Nat → Nat → Nat) (h0 : Nat) (wd : Nat) (hh : Nat) (sp : Nat) (gp : Nat) (fx : Nat) (g : Nat) (al : Nat) (gr : Nat) (gs : Nat) (bg : Nat) (re : Nat) (t : Nat) (mo : Int32) (x : Int32) (y : Int32) (f : Int32) (hg : gr ≤ 1000 ∧ gs ≤ 1000 ∧ bg ≤ 1000 ∧ re ≤ 1000) : zp_M l ySC_edge wSC_edge ({ frames := 2, cells := 0, slots := 0, locals := 44 }) [.ref h0, .int x, .int y, .int f] (dC, dI) vwCl [zob h0 0 [.ref g, .ref wd, .ref hh, .int (nI sp), .int (nI gp), .int (nI fx)], zob g 1 [.ref al, .int (nI gr), .int (nI gs), .int (nI bg), .int (nI re), .int (nI 0)], zob al 2 [.ref t, .int (nI 0), .int mo]] [] zN (fun r => r = -1) := by
  refine zp_head (cc := cSC_edge) (maxL := 5) (ret := (some .int)) (by decide +kernel) rfl (Nat.le_of_ble_eq_true rfl) ?_
  intro p e s m below meth c ls F hP hK hX hl
  obtain ⟨hx, hb, hml, hr, hlocks, hown, hts⟩ := F
  have hown : s.vm.findClass "SpannedCells" = some m.cls := hown
  have hz : ∀ w9 ∈ zT, w9.before [.ref h0, .int x, .int y, .int f].toArray s = true := fun w9 h => hts w9 (List.mem_cons_of_mem _ h)
  have hl : lv_has ls 5 [(0, .ref h0), (1, .int x), (2, .int y), (3, .int f)] := hl
  have hN := hX
  refine z_q (fun Q hQ => ?_)
  refine lv_aload_n hx hb dSC_edge_0 rfl (lv_at hl 0 rfl) ?_
  refine va_get (D := (dC, dI)) (ci := 0) (v := .ref g) (C := RSC) (T := TSC) (N := 6) hx hb hz in_SC hown hK hP 0 rfl rfl 0 (by decide) (hz _ wd_150) (fun _ h9 => h9) rfl dSC_edge_1 ?_
  refine lv_iload_n hx hb dSC_edge_4 rfl (lv_at hl 1 rfl) ?_
  refine lv_iload_n hx hb dSC_edge_5 rfl (lv_at hl 2 rfl) ?_
  refine vp_callSi (W.runV (As := [.int x, .int y]) (rest := []) ⟨hx, hb, hml, hown, hz⟩ (e_GR_hasSlot l dC dI g al gr gs bg re t mo x y (by omega)) (cwV 2 hz (z_gV wd_563 wd_564 wd_565 wd_30 wd_566) rfl rfl rfl (by decide +kernel) ⟨Nat.le_of_ble_eq_true rfl, Nat.le_of_ble_eq_true rfl⟩) (zr_preV hK (hP.sub [1, 2] rfl) (va_recv (q0 := 1) hK hP (q := (RGR, TGR, 6)) rfl rfl) [] rfl zN_blind (zN_call hN)) rfl rfl hl.1 rfl (lv_room (Nat.le_of_ble_eq_true rfl)) dSC_edge_6 ⟨Nat.le_of_ble_eq_true rfl, Nat.le_of_ble_eq_true rfl⟩) (fun r1 h_r1 => ?_)
  have h_r1 : r1 = 0 := h_r1
  subst h_r1
  refine lv_if_ne (tgt := 14) hx hb dSC_edge_9 rfl (fun h => absurd (by decide) h) (fun _ => ?_)
  refine lv_iconst (v := (-1)) hx hb dSC_edge_12 (by decide) ?_
  subst hQ
  exact zp_iret hx hb hr hlocks (rfl) dSC_edge_13

set_option maxHeartbeats 4000000 in
set_option maxRecDepth 100000 in
theorem e_SC_border (l : Launch) (dC : Nat → ClassId) (dI : Nat → Nat → Nat) (h0 : Nat) (wd : Nat) (hh : Nat) (sp : Nat) (gp : Nat) (fx : Nat) (g : Nat) (al : Nat) (gr : Nat) (gs : Nat) (bg : Nat) (re : Nat) (t : Nat) (mo : Int32) (k : Int32) (t1 : Int32) (w : Int32) (hg : gr ≤ 1000 ∧ gs ≤ 1000 ∧ bg ≤ 1000 ∧ re ≤ 1000) : zp_M l ySC_border wSC_border ({ frames := 2, cells := 0, slots := 0, locals := 41 }) [.ref h0, .int k, .int t1, .int w] (dC, dI) vwCl [zob h0 0 [.ref g, .ref wd, .ref hh, .int (nI sp), .int (nI gp), .int (nI fx)], zob g 1 [.ref al, .int (nI gr), .int (nI gs), .int (nI bg), .int (nI re), .int (nI 0)], zob al 2 [.ref t, .int (nI 0), .int mo]] [] (fun _ => True) (fun r => r = 0) := by
  refine zp_head (cc := cSC_border) (maxL := 4) (ret := (some .boolean)) (by decide +kernel) rfl (Nat.le_of_ble_eq_true rfl) ?_
  intro p e s m below meth c ls F hP hK hX hl
  obtain ⟨hx, hb, hml, hr, hlocks, hown, hts⟩ := F
  have hown : s.vm.findClass "SpannedCells" = some m.cls := hown
  have hz : ∀ w9 ∈ zT, w9.before [.ref h0, .int k, .int t1, .int w].toArray s = true := fun w9 h => hts w9 (List.mem_cons_of_mem _ h)
  have hl : lv_has ls 4 [(0, .ref h0), (1, .int k), (2, .int t1), (3, .int w)] := hl
  refine z_q (fun Q hQ => ?_)
  refine lv_aload_n hx hb dSC_border_0 rfl (lv_at hl 0 rfl) ?_
  refine va_get (D := (dC, dI)) (ci := 0) (v := .ref g) (C := RSC) (T := TSC) (N := 6) hx hb hz in_SC hown hK hP 0 rfl rfl 0 (by decide) (hz _ wd_150) (fun _ h9 => h9) rfl dSC_border_1 ?_
  refine lv_iload_n hx hb dSC_border_4 rfl (lv_at hl 1 rfl) ?_
  refine vp_callSi (W.runV (As := [.int k]) (rest := []) ⟨hx, hb, hml, hown, hz⟩ (e_GR_hasCell l dC dI g al gr gs bg re t mo k (by omega)) (cwV 1 hz (z_gV wd_355 wd_356 wd_357 wd_30 wd_358) rfl rfl rfl (by decide +kernel) ⟨Nat.le_of_ble_eq_true rfl, Nat.le_of_ble_eq_true rfl⟩) (zr_preV hK (hP.sub [1, 2] rfl) (va_recv (q0 := 1) hK hP (q := (RGR, TGR, 6)) rfl rfl) [] rfl z_true (fun _ _ _ => trivial)) rfl rfl hl.1 rfl (lv_room (Nat.le_of_ble_eq_true rfl)) dSC_border_5 ⟨Nat.le_of_ble_eq_true rfl, Nat.le_of_ble_eq_true rfl⟩) (fun r1 h_r1 => ?_)
  have h_r1 : r1 = 0 := h_r1
  subst h_r1
  refine lv_if_eq (tgt := 30) hx hb dSC_border_8 rfl (fun _ => ?_) (fun h => absurd (by decide) h)
  refine lv_iconst (v := nI 0) hx hb dSC_border_30 (by decide) ?_
  subst hQ
  exact zp_zret hx hb hr hlocks (Or.inl rfl) (rfl) dSC_border_31

set_option maxHeartbeats 4000000 in
set_option maxRecDepth 100000 in
theorem e_SC_wide (l : Launch) (dC : Nat → ClassId) (dI : Nat → Nat → Nat) (h0 : Nat) (wd : Nat) (hh : Nat) (sp : Nat) (gp : Nat) (fx : Nat) (g : Nat) (al : Nat) (gr : Nat) (gs : Nat) (bg : Nat) (re : Nat) (t : Nat) (mo : Int32) (x : Int32) (w : Int32) (hg : gr ≤ 1000 ∧ gs ≤ 1000 ∧ bg ≤ 1000 ∧ re ≤ 1000) : zp_M l ySC_wide wSC_wide ({ frames := 1, cells := 0, slots := 0, locals := 22 }) [.ref h0, .int x, .int w] (dC, dI) vwCl [zob h0 0 [.ref g, .ref wd, .ref hh, .int (nI sp), .int (nI gp), .int (nI fx)], zob g 1 [.ref al, .int (nI gr), .int (nI gs), .int (nI bg), .int (nI re), .int (nI 0)], zob al 2 [.ref t, .int (nI 0), .int mo]] [] (fun _ => True) (fun r => r = -1) := by
  refine zp_head (cc := cSC_wide) (maxL := 3) (ret := (some .int)) (by decide +kernel) rfl (Nat.le_of_ble_eq_true rfl) ?_
  intro p e s m below meth c ls F hP hK hX hl
  obtain ⟨hx, hb, hml, hr, hlocks, hown, hts⟩ := F
  have hown : s.vm.findClass "SpannedCells" = some m.cls := hown
  have hz : ∀ w9 ∈ zT, w9.before [.ref h0, .int x, .int w].toArray s = true := fun w9 h => hts w9 (List.mem_cons_of_mem _ h)
  have hl : lv_has ls 3 [(0, .ref h0), (1, .int x), (2, .int w)] := hl
  refine z_q (fun Q hQ => ?_)
  refine lv_iload_n hx hb dSC_wide_0 rfl (lv_at hl 1 rfl) ?_
  refine lv_iconst (v := nI 0) hx hb dSC_wide_1 (by decide) ?_
  refine lv_aload_n hx hb dSC_wide_2 rfl (lv_at hl 0 rfl) ?_
  refine va_get (D := (dC, dI)) (ci := 0) (v := .ref g) (C := RSC) (T := TSC) (N := 6) hx hb hz in_SC hown hK hP 0 rfl rfl 0 (by decide) (hz _ wd_150) (fun _ h9 => h9) rfl dSC_wide_3 ?_
  refine vp_callSi (W.runV (As := []) (rest := [.int (nI 0), .int x]) ⟨hx, hb, hml, hown, hz⟩ (e_GR_columnCount l dC dI g al gr gs bg re ) (cwV 0 hz (z_gV wd_391 wd_392 wd_393 wd_30 wd_394) rfl rfl rfl (by decide +kernel) ⟨Nat.le_of_ble_eq_true rfl, Nat.le_of_ble_eq_true rfl⟩) (zr_preV hK (hP.sub [1] rfl) (va_recv (q0 := 1) hK hP (q := (RGR, TGR, 6)) rfl rfl) [] rfl z_true (fun _ _ _ => trivial)) rfl rfl hl.1 rfl (lv_room (Nat.le_of_ble_eq_true rfl)) dSC_wide_6 ⟨Nat.le_of_ble_eq_true rfl, Nat.le_of_ble_eq_true rfl⟩) (fun r1 h_r1 => ?_)
  have h_r1 : r1 = nI 0 := h_r1
  subst h_r1
  refine lv_iconst (v := nI 1) hx hb dSC_wide_9 (by decide) ?_
  refine lv_isub hx hb dSC_wide_10 ?_
  have t_a := pk_sub_toInt (a := 0) (b := 1) (by omega) (by omega)
  have t_0 := nI_toInt (n := 0) (by omega)
  refine vp_callSi (W.runS (As := [.int x, .int (nI 0), .int ((nI 0) - (nI 1))]) (rest := []) ⟨hx, hb, hml, hown, hz⟩ (f_SC_within l dC dI x (nI 0) ((nI 0) - (nI 1)) ) (va_cwS 3 hz (z_gS wd_219 wd_220 wd_29 wd_221) rfl rfl rfl (by decide +kernel) ⟨Nat.le_of_ble_eq_true rfl, Nat.le_of_ble_eq_true rfl⟩) (zr_preS hK (hP.sub [] rfl) [] rfl z_true (fun _ _ _ => trivial)) rfl rfl hl.1 rfl (lv_room (Nat.le_of_ble_eq_true rfl)) dSC_wide_11 ⟨Nat.le_of_ble_eq_true rfl, Nat.le_of_ble_eq_true rfl⟩) (fun r2 h_r2 => ?_)
  have h_r2 : r2 = 0 := z_ynF h_r2 (by omega)
  subst h_r2
  refine lv_if_ne (tgt := 19) hx hb dSC_wide_14 rfl (fun h => absurd (by decide) h) (fun _ => ?_)
  refine lv_iconst (v := (-1)) hx hb dSC_wide_17 (by decide) ?_
  subst hQ
  exact zp_iret hx hb hr hlocks (rfl) dSC_wide_18

set_option maxHeartbeats 4000000 in
set_option maxRecDepth 100000 in
theorem e_SC_place (l : Launch) (dC : Nat → ClassId) (dI : Nat → Nat → Nat) (h0 : Nat) (wd : Nat) (hh : Nat) (sp : Nat) (gp : Nat) (fx : Nat) (g : Nat) (al : Nat) (gr : Nat) (gs : Nat) (bg : Nat) (re : Nat) (t : Nat) (mo : Int32) (k : Int32) (w : Int32) (hg : gr ≤ 1000 ∧ gs ≤ 1000 ∧ bg ≤ 1000 ∧ re ≤ 1000) : zp_M l ySC_place wSC_place ({ frames := 2, cells := 0, slots := 0, locals := 41 }) [.ref h0, .int k, .int w] (dC, dI) vwCl [zob h0 0 [.ref g, .ref wd, .ref hh, .int (nI sp), .int (nI gp), .int (nI fx)], zob g 1 [.ref al, .int (nI gr), .int (nI gs), .int (nI bg), .int (nI re), .int (nI 0)], zob al 2 [.ref t, .int (nI 0), .int mo]] [] (fun _ => True) (fun r => r = -1) := by
  refine zp_head (cc := cSC_place) (maxL := 4) (ret := (some .int)) (by decide +kernel) rfl (Nat.le_of_ble_eq_true rfl) ?_
  intro p e s m below meth c ls F hP hK hX hl
  obtain ⟨hx, hb, hml, hr, hlocks, hown, hts⟩ := F
  have hown : s.vm.findClass "SpannedCells" = some m.cls := hown
  have hz : ∀ w9 ∈ zT, w9.before [.ref h0, .int k, .int w].toArray s = true := fun w9 h => hts w9 (List.mem_cons_of_mem _ h)
  have hl : lv_has ls 4 [(0, .ref h0), (1, .int k), (2, .int w)] := hl
  refine z_q (fun Q hQ => ?_)
  refine lv_aload_n hx hb dSC_place_0 rfl (lv_at hl 0 rfl) ?_
  refine va_get (D := (dC, dI)) (ci := 0) (v := .ref g) (C := RSC) (T := TSC) (N := 6) hx hb hz in_SC hown hK hP 0 rfl rfl 0 (by decide) (hz _ wd_150) (fun _ h9 => h9) rfl dSC_place_1 ?_
  refine lv_iload_n hx hb dSC_place_4 rfl (lv_at hl 1 rfl) ?_
  refine vp_callSi (W.runV (As := [.int k]) (rest := []) ⟨hx, hb, hml, hown, hz⟩ (e_GR_hasCell l dC dI g al gr gs bg re t mo k (by omega)) (cwV 1 hz (z_gV wd_355 wd_356 wd_357 wd_30 wd_358) rfl rfl rfl (by decide +kernel) ⟨Nat.le_of_ble_eq_true rfl, Nat.le_of_ble_eq_true rfl⟩) (zr_preV hK (hP.sub [1, 2] rfl) (va_recv (q0 := 1) hK hP (q := (RGR, TGR, 6)) rfl rfl) [] rfl z_true (fun _ _ _ => trivial)) rfl rfl hl.1 rfl (lv_room (Nat.le_of_ble_eq_true rfl)) dSC_place_5 ⟨Nat.le_of_ble_eq_true rfl, Nat.le_of_ble_eq_true rfl⟩) (fun r1 h_r1 => ?_)
  have h_r1 : r1 = 0 := h_r1
  subst h_r1
  refine lv_if_ne (tgt := 13) hx hb dSC_place_8 rfl (fun h => absurd (by decide) h) (fun _ => ?_)
  refine lv_iconst (v := (-1)) hx hb dSC_place_11 (by decide) ?_
  subst hQ
  exact zp_iret hx hb hr hlocks (rfl) dSC_place_12

set_option maxHeartbeats 4000000 in
set_option maxRecDepth 100000 in
theorem e_SC_size (l : Launch) (dC : Nat → ClassId) (dI : Nat → Nat → Nat) (h0 : Nat) (wd : Nat) (hh : Nat) (sp : Nat) (gp : Nat) (fx : Nat) (g : Nat) (al : Nat) (gr : Nat) (gs : Nat) (bg : Nat) (re : Nat) (t : Nat) (mo : Int32) (f : Int32) (hg : gr ≤ 1000 ∧ gs ≤ 1000 ∧ bg ≤ 1000 ∧ re ≤ 1000) : zp_M l ySC_size wSC_size ({ frames := 1, cells := 0, slots := 0, locals := 20 }) [.ref h0, .int f] (dC, dI) vwCl [zob h0 0 [.ref g, .ref wd, .ref hh, .int (nI sp), .int (nI gp), .int (nI fx)], zob g 1 [.ref al, .int (nI gr), .int (nI gs), .int (nI bg), .int (nI re), .int (nI 0)], zob al 2 [.ref t, .int (nI 0), .int mo]] [] (fun _ => True) (fun r => r = nI 0) := by
  refine zp_head (cc := cSC_size) (maxL := 2) (ret := (some .int)) (by decide +kernel) rfl (Nat.le_of_ble_eq_true rfl) ?_
  intro p e s m below meth c ls F hP hK hX hl
  obtain ⟨hx, hb, hml, hr, hlocks, hown, hts⟩ := F
  have hown : s.vm.findClass "SpannedCells" = some m.cls := hown
  have hz : ∀ w9 ∈ zT, w9.before [.ref h0, .int f].toArray s = true := fun w9 h => hts w9 (List.mem_cons_of_mem _ h)
  have hl : lv_has ls 2 [(0, .ref h0), (1, .int f)] := hl
  refine z_q (fun Q hQ => ?_)
  refine lv_aload_n hx hb dSC_size_0 rfl (lv_at hl 0 rfl) ?_
  refine va_get (D := (dC, dI)) (ci := 0) (v := .ref g) (C := RSC) (T := TSC) (N := 6) hx hb hz in_SC hown hK hP 0 rfl rfl 0 (by decide) (hz _ wd_150) (fun _ h9 => h9) rfl dSC_size_1 ?_
  refine vp_callSi (W.runV (As := []) (rest := []) ⟨hx, hb, hml, hown, hz⟩ (e_GR_columnCount l dC dI g al gr gs bg re ) (cwV 0 hz (z_gV wd_391 wd_392 wd_393 wd_30 wd_394) rfl rfl rfl (by decide +kernel) ⟨Nat.le_of_ble_eq_true rfl, Nat.le_of_ble_eq_true rfl⟩) (zr_preV hK (hP.sub [1] rfl) (va_recv (q0 := 1) hK hP (q := (RGR, TGR, 6)) rfl rfl) [] rfl z_true (fun _ _ _ => trivial)) rfl rfl hl.1 rfl (lv_room (Nat.le_of_ble_eq_true rfl)) dSC_size_4 ⟨Nat.le_of_ble_eq_true rfl, Nat.le_of_ble_eq_true rfl⟩) (fun r1 h_r1 => ?_)
  have h_r1 : r1 = nI 0 := h_r1
  subst h_r1
  refine lv_if_eq (tgt := 20) hx hb dSC_size_7 rfl (fun _ => ?_) (fun h => absurd (by decide) h)
  refine lv_iconst (v := nI 0) hx hb dSC_size_20 (by decide) ?_
  subst hQ
  exact zp_iret hx hb hr hlocks (rfl) dSC_size_21

set_option maxHeartbeats 4000000 in
set_option maxRecDepth 100000 in
theorem e_GR_putCell (l : Launch) (dC : Nat → ClassId) (dI : Nat → Nat → Nat) (g : Nat) (al : Nat) (gr : Nat) (gs : Nat) (bg : Nat) (re : Nat) (t : Nat) (mo : Int32) (a_v : Nat) (b_v : Nat) (c_v : Nat) (d_v : Nat) (e_v : Nat) (hg : gr ≤ 1000 ∧ gs ≤ 1000 ∧ bg ≤ 1000 ∧ re ≤ 1000) (hab : a_v ≤ 6 ∧ b_v ≤ 6) (hno : bg = 0 ∨ 12 < gs + bg - 1 + b_v) : zp_M l yGR_putCell wGR_putCell ({ frames := 3, cells := 0, slots := 0, locals := 65 }) [.ref g, .int (nI a_v), .int (nI b_v), .int (nI c_v), .int (nI d_v), .int (nI e_v)] (dC, dI) vwCl [zob g 1 [.ref al, .int (nI gr), .int (nI gs), .int (nI bg), .int (nI re), .int (nI 0)], zob al 2 [.ref t, .int (nI 0), .int mo]] [] (fun _ => True) (fun r => r = -1) := by
  refine zp_head (cc := cGR_putCell) (maxL := 8) (ret := (some .int)) (by decide +kernel) rfl (Nat.le_of_ble_eq_true rfl) ?_
  intro p e s m below meth c ls F hP hK hX hl
  obtain ⟨hx, hb, hml, hr, hlocks, hown, hts⟩ := F
  have hown : s.vm.findClass "SpannedCells$Grid" = some m.cls := hown
  have hz : ∀ w9 ∈ zT, w9.before [.ref g, .int (nI a_v), .int (nI b_v), .int (nI c_v), .int (nI d_v), .int (nI e_v)].toArray s = true := fun w9 h => hts w9 (List.mem_cons_of_mem _ h)
  have hl : lv_has ls 8 [(0, .ref g), (1, .int (nI a_v)), (2, .int (nI b_v)), (3, .int (nI c_v)), (4, .int (nI d_v)), (5, .int (nI e_v))] := hl
  refine z_q (fun Q hQ => ?_)
  refine lv_aload_n hx hb dGR_putCell_0 rfl (lv_at hl 0 rfl) ?_
  refine va_get (D := (dC, dI)) (ci := 1) (v := .int (nI bg)) (C := RGR) (T := TGR) (N := 6) hx hb hz in_GR hown hK hP 0 rfl rfl 3 (by decide) (hz _ wd_88) (fun _ h9 => h9) rfl dGR_putCell_1 ?_
  have t1 := nI_toInt (n := bg) (by omega)
  have t2 : (0 : Int32).toInt = 0 := by decide
  refine lv_if_eq (tgt := 19) hx hb dGR_putCell_4 rfl (fun h1 => ?_) (fun h1 => ?_)
  · have h1 := z_eq h1
    refine lv_iconst (v := (-1)) hx hb dGR_putCell_19 (by decide) ?_
    subst hQ
    exact zp_iret hx hb hr hlocks (rfl) dGR_putCell_20
  · have h1 := z_ne h1
    refine lv_aload_n hx hb dGR_putCell_7 rfl (lv_at hl 0 rfl) ?_
    refine va_get (D := (dC, dI)) (ci := 1) (v := .ref al) (C := RGR) (T := TGR) (N := 6) hx hb hz in_GR hown hK hP 0 rfl rfl 0 (by decide) (hz _ wd_85) (fun _ h9 => h9) rfl dGR_putCell_8 ?_
    refine vp_callSi (W.runV (As := []) (rest := []) ⟨hx, hb, hml, hown, hz⟩ (f_AL_size l dC dI al t mo 0 ) (cwV 0 hz (z_gV wd_192 wd_193 wd_194 wd_33 wd_195) rfl rfl rfl (by decide +kernel) ⟨Nat.le_of_ble_eq_true rfl, Nat.le_of_ble_eq_true rfl⟩) (zr_preV hK (hP.sub [1] rfl) (va_recv (q0 := 1) hK hP (q := (RAL, TAL, 3)) rfl rfl) [] rfl z_true (fun _ _ _ => trivial)) rfl rfl hl.1 rfl (lv_room (Nat.le_of_ble_eq_true rfl)) dGR_putCell_11 ⟨Nat.le_of_ble_eq_true rfl, Nat.le_of_ble_eq_true rfl⟩) (fun r4 h_r4 => ?_)
    have h_r4 : r4 = nI 0 := h_r4
    subst h_r4
    refine lv_bipush (v := nI 40) hx hb dGR_putCell_14 (by decide) ?_
    refine lv_icmp_lt (tgt := 21) hx hb dGR_putCell_16 rfl (fun _ => ?_) (fun h => absurd (by decide) h)
    refine lv_aload_n hx hb dGR_putCell_21 rfl (lv_at hl 0 rfl) ?_
    refine va_get (D := (dC, dI)) (ci := 1) (v := .int (nI gs)) (C := RGR) (T := TGR) (N := 6) hx hb hz in_GR hown hK hP 0 rfl rfl 2 (by decide) (hz _ wd_87) (fun _ h9 => h9) rfl dGR_putCell_22 ?_
    refine lv_aload_n hx hb dGR_putCell_25 rfl (lv_at hl 0 rfl) ?_
    refine va_get (D := (dC, dI)) (ci := 1) (v := .int (nI bg)) (C := RGR) (T := TGR) (N := 6) hx hb hz in_GR hown hK hP 0 rfl rfl 3 (by decide) (hz _ wd_88) (fun _ h9 => h9) rfl dGR_putCell_26 ?_
    refine lv_iadd hx hb dGR_putCell_29 ?_
    refine lv_topi (fun x5 e6 => ?_)
    have e6 : x5 = nI (gs + bg) := e6.trans (nI_add _ _)
    subst e6
    refine lv_iconst (v := nI 1) hx hb dGR_putCell_30 (by decide) ?_
    refine lv_isub hx hb dGR_putCell_31 ?_
    refine lv_topi (fun x7 e8 => ?_)
    have e8 : x7 = nI ((gs + bg) - 1) := e8.trans (pk_sub (by omega))
    subst e8
    refine lv_istore hx hb dGR_putCell_32 hl (Nat.le_of_ble_eq_true rfl) rfl (fun ls hl => ?_)
    have hl : lv_has ls 8 [(6, .int (nI ((gs + bg) - 1))), (0, .ref g), (1, .int (nI a_v)), (2, .int (nI b_v)), (3, .int (nI c_v)), (4, .int (nI d_v)), (5, .int (nI e_v))] := hl
    refine lv_aload_n hx hb dGR_putCell_34 rfl (lv_at hl 1 rfl) ?_
    refine lv_iload hx hb dGR_putCell_35 (lv_at hl 0 rfl) ?_
    refine vp_callSi (W.runV (As := [.int (nI ((gs + bg) - 1))]) (rest := []) ⟨hx, hb, hml, hown, hz⟩ (e_GR_firstFreeColumn l dC dI g al gr gs bg re t mo (nI ((gs + bg) - 1)) (by omega)) (cwV 1 hz (z_gV wd_226 wd_228 wd_1 wd_30 wd_229) rfl rfl rfl (by decide +kernel) ⟨Nat.le_of_ble_eq_true rfl, Nat.le_of_ble_eq_true rfl⟩) (zr_preV hK (hP.sub [0, 1] rfl) (va_recv (q0 := 0) hK hP (q := (RGR, TGR, 6)) rfl rfl) [] rfl z_true (fun _ _ _ => trivial)) rfl rfl hl.1 rfl (lv_room (Nat.le_of_ble_eq_true rfl)) dGR_putCell_37 ⟨Nat.le_of_ble_eq_true rfl, Nat.le_of_ble_eq_true rfl⟩) (fun r9 h_r9 => ?_)
    have h_r9 : r9 = nI 0 := h_r9
    subst h_r9
    refine lv_istore hx hb dGR_putCell_40 hl (Nat.le_of_ble_eq_true rfl) rfl (fun ls hl => ?_)
    have hl : lv_has ls 8 [(7, .int (nI 0)), (6, .int (nI ((gs + bg) - 1))), (0, .ref g), (1, .int (nI a_v)), (2, .int (nI b_v)), (3, .int (nI c_v)), (4, .int (nI d_v)), (5, .int (nI e_v))] := hl
    refine lv_iload hx hb dGR_putCell_42 (lv_at hl 0 rfl) ?_
    refine lv_iload_n hx hb dGR_putCell_44 rfl (lv_at hl 3 rfl) ?_
    refine lv_iadd hx hb dGR_putCell_45 ?_
    refine lv_topi (fun x10 e11 => ?_)
    have e11 : x10 = nI (0 + a_v) := e11.trans (nI_add _ _)
    subst e11
    refine lv_bipush (v := nI 12) hx hb dGR_putCell_46 (by decide) ?_
    have t12 := nI_toInt (n := 0 + a_v) (by omega)
    have t13 := nI_toInt (n := 12) (by omega)
    refine lv_icmp_gt (tgt := 60) hx hb dGR_putCell_48 rfl (fun h => by have h := z_lt h; omega) (fun _ => ?_)
    refine lv_iload hx hb dGR_putCell_51 (lv_at hl 1 rfl) ?_
    refine lv_iload_n hx hb dGR_putCell_53 rfl (lv_at hl 4 rfl) ?_
    refine lv_iadd hx hb dGR_putCell_54 ?_
    refine lv_topi (fun x14 e15 => ?_)
    have e15 : x14 = nI (((gs + bg) - 1) + b_v) := e15.trans (nI_add _ _)
    subst e15
    refine lv_bipush (v := nI 12) hx hb dGR_putCell_55 (by decide) ?_
    have t16 := nI_toInt (n := ((gs + bg) - 1) + b_v) (by omega)
    have t17 := nI_toInt (n := 12) (by omega)
    refine lv_icmp_le (tgt := 62) hx hb dGR_putCell_57 rfl (fun h => by have h := z_le h; omega) (fun _ => ?_)
    refine lv_iconst (v := (-1)) hx hb dGR_putCell_60 (by decide) ?_
    subst hQ
    exact zp_iret hx hb hr hlocks (rfl) dGR_putCell_61

set_option maxHeartbeats 4000000 in
set_option maxRecDepth 100000 in
theorem e_SC_cell (l : Launch) (dC : Nat → ClassId) (dI : Nat → Nat → Nat) (h0 : Nat) (wd : Nat) (hh : Nat) (sp : Nat) (gp : Nat) (fx : Nat) (g : Nat) (al : Nat) (gr : Nat) (gs : Nat) (bg : Nat) (re : Nat) (t : Nat) (mo : Int32) (a : Int32) (b : Int32) (c1 : Int32) (d1 : Int32) (e1 : Int32) (hg : gr ≤ 1000 ∧ gs ≤ 1000 ∧ bg ≤ 1000 ∧ re ≤ 1000) (hno : ¬ zGood a b c1 d1 e1 ∨ bg = 0 ∨ 12 < ((gs + bg - 1 : Nat) : Int) + b.toInt) : zp_M l ySC_cell wSC_cell ({ frames := 4, cells := 0, slots := 0, locals := 92 }) [.ref h0, .int a, .int b, .int c1, .int d1, .int e1] (dC, dI) vwCl [zob h0 0 [.ref g, .ref wd, .ref hh, .int (nI sp), .int (nI gp), .int (nI fx)], zob g 1 [.ref al, .int (nI gr), .int (nI gs), .int (nI bg), .int (nI re), .int (nI 0)], zob al 2 [.ref t, .int (nI 0), .int mo]] [] (fun _ => True) (fun r => r = -1) := by
  refine zp_head (cc := cSC_cell) (maxL := 9) (ret := (some .int)) (by decide +kernel) rfl (Nat.le_of_ble_eq_true rfl) ?_
  intro p e s m below meth c ls F hP hK hX hl
  obtain ⟨hx, hb, hml, hr, hlocks, hown, hts⟩ := F
  have hown : s.vm.findClass "SpannedCells" = some m.cls := hown
  have hz : ∀ w9 ∈ zT, w9.before [.ref h0, .int a, .int b, .int c1, .int d1, .int e1].toArray s = true := fun w9 h => hts w9 (List.mem_cons_of_mem _ h)
  have hl : lv_has ls 9 [(0, .ref h0), (1, .int a), (2, .int b), (3, .int c1), (4, .int d1), (5, .int e1)] := hl
  refine z_q (fun Q hQ => ?_)
  have t_0 := nI_toInt (n := 0) (by omega)
  have t_1 := nI_toInt (n := 1) (by omega)
  have t_6 := nI_toInt (n := 6) (by omega)
  have t_k := nI_toInt (n := 1000) (by omega)
  refine z_join (fun v1 : Int32 => z_yn v1 ((1 ≤ a.toInt ∧ a.toInt ≤ 6) ∧ (0 ≤ b.toInt ∧ b.toInt ≤ 6))) (fun v1 => W p l e ({ frames := 4, cells := 0, slots := 0, locals := 92 }) s m [.ref h0, .int a, .int b, .int c1, .int d1, .int e1].toArray below meth c s.heap [] 0 0 Q (F0 m 25 ls (.int v1 :: []))) (fun v1 hv1 => ?_) (fun J25 => ?_)
  · refine lv_istore hx hb dSC_cell_25 hl (Nat.le_of_ble_eq_true rfl) rfl (fun ls hl => ?_)
    have hl : lv_has ls 9 [(6, .int v1), (0, .ref h0), (1, .int a), (2, .int b), (3, .int c1), (4, .int d1), (5, .int e1)] := hl
    refine z_join (fun v2 : Int32 => z_yn v2 ((0 ≤ c1.toInt ∧ c1.toInt ≤ d1.toInt) ∧ d1.toInt ≤ 1000)) (fun v2 => W p l e ({ frames := 4, cells := 0, slots := 0, locals := 92 }) s m [.ref h0, .int a, .int b, .int c1, .int d1, .int e1].toArray below meth c s.heap [] 0 0 Q (F0 m 54 ls (.int v2 :: []))) (fun v2 hv2 => ?_) (fun J54 => ?_)
    · refine lv_istore hx hb dSC_cell_54 hl (Nat.le_of_ble_eq_true rfl) rfl (fun ls hl => ?_)
      have hl : lv_has ls 9 [(7, .int v2), (6, .int v1), (0, .ref h0), (1, .int a), (2, .int b), (3, .int c1), (4, .int d1), (5, .int e1)] := hl
      refine lv_iload hx hb dSC_cell_56 (lv_at hl 7 rfl) ?_
      refine lv_iconst (v := nI 0) hx hb dSC_cell_58 (by decide) ?_
      refine lv_sipush (v := nI 1000) hx hb dSC_cell_59 (by decide) ?_
      refine vp_callSi (W.runS (As := [.int e1, .int (nI 0), .int (nI 1000)]) (rest := []) ⟨hx, hb, hml, hown, hz⟩ (f_SC_within l dC dI e1 (nI 0) (nI 1000) ) (va_cwS 3 hz (z_gS wd_219 wd_220 wd_29 wd_221) rfl rfl rfl (by decide +kernel) ⟨Nat.le_of_ble_eq_true rfl, Nat.le_of_ble_eq_true rfl⟩) (zr_preS hK (hP.sub [] rfl) [] rfl z_true (fun _ _ _ => trivial)) rfl rfl hl.1 rfl (lv_room (Nat.le_of_ble_eq_true rfl)) dSC_cell_62 ⟨Nat.le_of_ble_eq_true rfl, Nat.le_of_ble_eq_true rfl⟩) (fun re9 h_re9 => ?_)
      have h_re9 : z_yn re9 ((nI 0).toInt ≤ e1.toInt ∧ e1.toInt ≤ (nI 1000).toInt) := h_re9
      refine lv_istore hx hb dSC_cell_65 hl (Nat.le_of_ble_eq_true rfl) rfl (fun ls hl => ?_)
      have hl : lv_has ls 9 [(8, .int re9), (7, .int v2), (6, .int v1), (0, .ref h0), (1, .int a), (2, .int b), (3, .int c1), (4, .int d1), (5, .int e1)] := hl
      refine lv_iload hx hb dSC_cell_67 (lv_at hl 2 rfl) ?_
      refine lv_if_eq (tgt := 82) hx hb dSC_cell_69 rfl (fun h_v => ?_) (fun h_v => ?_)
      · have h_v := z_yF hv1 h_v
        refine lv_iconst (v := (-1)) hx hb dSC_cell_82 (by decide) ?_
        subst hQ
        exact zp_iret hx hb hr hlocks (rfl) dSC_cell_83
      · have h_v := z_yT hv1 h_v
        refine lv_iload hx hb dSC_cell_72 (lv_at hl 1 rfl) ?_
        refine lv_if_eq (tgt := 82) hx hb dSC_cell_74 rfl (fun h_w => ?_) (fun h_w => ?_)
        · have h_w := z_yF hv2 h_w
          refine lv_iconst (v := (-1)) hx hb dSC_cell_82 (by decide) ?_
          subst hQ
          exact zp_iret hx hb hr hlocks (rfl) dSC_cell_83
        · have h_w := z_yT hv2 h_w
          refine lv_iload hx hb dSC_cell_77 (lv_at hl 0 rfl) ?_
          refine lv_if_ne (tgt := 84) hx hb dSC_cell_79 rfl (fun h_x => ?_) (fun h_x => ?_)
          · have h_x := z_yT h_re9 h_x
            have h_g : zGood a b c1 d1 e1 := ⟨h_v, h_w, by omega⟩
            have h_g2 := h_g
            have h_g3 : ((1 ≤ a.toInt ∧ a.toInt ≤ 6) ∧ (0 ≤ b.toInt ∧ b.toInt ≤ 6)) ∧ ((0 ≤ c1.toInt ∧ c1.toInt ≤ d1.toInt) ∧ d1.toInt ≤ 1000) ∧ (0 ≤ e1.toInt ∧ e1.toInt ≤ 1000) := h_g
            obtain ⟨a_v, hz_a, rfl⟩ := z_ofIn (c := a) (n := 1001) (by omega) (by omega) (by omega)
            obtain ⟨b_v, hz_b, rfl⟩ := z_ofIn (c := b) (n := 1001) (by omega) (by omega) (by omega)
            obtain ⟨c1_v, hz_c1, rfl⟩ := z_ofIn (c := c1) (n := 1001) (by omega) (by omega) (by omega)
            obtain ⟨d1_v, hz_d1, rfl⟩ := z_ofIn (c := d1) (n := 1001) (by omega) (by omega) (by omega)
            obtain ⟨e1_v, hz_e1, rfl⟩ := z_ofIn (c := e1) (n := 1001) (by omega) (by omega) (by omega)
            have tz_a := nI_toInt (n := a_v) (by omega)
            have tz_b := nI_toInt (n := b_v) (by omega)
            have tz_c1 := nI_toInt (n := c1_v) (by omega)
            have tz_d1 := nI_toInt (n := d1_v) (by omega)
            have tz_e1 := nI_toInt (n := e1_v) (by omega)
            refine lv_aload_n hx hb dSC_cell_84 rfl (lv_at hl 3 rfl) ?_
            refine va_get (D := (dC, dI)) (ci := 0) (v := .ref g) (C := RSC) (T := TSC) (N := 6) hx hb hz in_SC hown hK hP 0 rfl rfl 0 (by decide) (hz _ wd_150) (fun _ h9 => h9) rfl dSC_cell_85 ?_
            refine lv_iload_n hx hb dSC_cell_88 rfl (lv_at hl 4 rfl) ?_
            refine lv_iload_n hx hb dSC_cell_89 rfl (lv_at hl 5 rfl) ?_
            refine lv_iload_n hx hb dSC_cell_90 rfl (lv_at hl 6 rfl) ?_
            refine lv_iload hx hb dSC_cell_91 (lv_at hl 7 rfl) ?_
            refine lv_iload hx hb dSC_cell_93 (lv_at hl 8 rfl) ?_
            refine vp_callSi (W.runV (As := [.int (nI a_v), .int (nI b_v), .int (nI c1_v), .int (nI d1_v), .int (nI e1_v)]) (rest := []) ⟨hx, hb, hml, hown, hz⟩ (e_GR_putCell l dC dI g al gr gs bg re t mo a_v b_v c1_v d1_v e1_v (by omega) (by omega) (by rcases hno with h9 | h9 | h9; exact absurd h_g2 h9; exact Or.inl h9; exact Or.inr (by omega))) (cwV 5 hz (z_gV wd_222 wd_223 wd_224 wd_30 wd_225) rfl rfl rfl (by decide +kernel) ⟨Nat.le_of_ble_eq_true rfl, Nat.le_of_ble_eq_true rfl⟩) (zr_preV hK (hP.sub [1, 2] rfl) (va_recv (q0 := 1) hK hP (q := (RGR, TGR, 6)) rfl rfl) [] rfl z_true (fun _ _ _ => trivial)) rfl rfl hl.1 rfl (lv_room (Nat.le_of_ble_eq_true rfl)) dSC_cell_95 ⟨Nat.le_of_ble_eq_true rfl, Nat.le_of_ble_eq_true rfl⟩) (fun r4 h_r4 => ?_)
            have h_r4 : r4 = -1 := h_r4
            subst h_r4
            subst hQ
            exact zp_iret hx hb hr hlocks (rfl) dSC_cell_98
          · have h_x := z_yF h_re9 h_x
            refine lv_iconst (v := (-1)) hx hb dSC_cell_82 (by decide) ?_
            subst hQ
            exact zp_iret hx hb hr hlocks (rfl) dSC_cell_83
    · refine lv_iload hx hb dSC_cell_27 (lv_at hl 5 rfl) ?_
      refine lv_iconst (v := nI 0) hx hb dSC_cell_29 (by decide) ?_
      refine lv_sipush (v := nI 1000) hx hb dSC_cell_30 (by decide) ?_
      refine vp_callSi (W.runS (As := [.int d1, .int (nI 0), .int (nI 1000)]) (rest := []) ⟨hx, hb, hml, hown, hz⟩ (f_SC_within l dC dI d1 (nI 0) (nI 1000) ) (va_cwS 3 hz (z_gS wd_219 wd_220 wd_29 wd_221) rfl rfl rfl (by decide +kernel) ⟨Nat.le_of_ble_eq_true rfl, Nat.le_of_ble_eq_true rfl⟩) (zr_preS hK (hP.sub [] rfl) [] rfl z_true (fun _ _ _ => trivial)) rfl rfl hl.1 rfl (lv_room (Nat.le_of_ble_eq_true rfl)) dSC_cell_33 ⟨Nat.le_of_ble_eq_true rfl, Nat.le_of_ble_eq_true rfl⟩) (fun rc h_rc => ?_)
      have h_rc : z_yn rc ((nI 0).toInt ≤ d1.toInt ∧ d1.toInt ≤ (nI 1000).toInt) := h_rc
      refine lv_if_eq (tgt := 53) hx hb dSC_cell_36 rfl (fun h_b => ?_) (fun h_b => ?_)
      · have h_b := z_yF h_rc h_b
        refine lv_iconst (v := nI 0) hx hb dSC_cell_53 (by decide) ?_
        exact J54 _ (z_y0 (by omega))
      · have h_b := z_yT h_rc h_b
        have h_c := h_b
        refine lv_iload_n hx hb dSC_cell_39 rfl (lv_at hl 4 rfl) ?_
        refine lv_iconst (v := nI 0) hx hb dSC_cell_40 (by decide) ?_
        refine lv_iload hx hb dSC_cell_41 (lv_at hl 5 rfl) ?_
        refine vp_callSi (W.runS (As := [.int c1, .int (nI 0), .int d1]) (rest := []) ⟨hx, hb, hml, hown, hz⟩ (f_SC_within l dC dI c1 (nI 0) d1 ) (va_cwS 3 hz (z_gS wd_219 wd_220 wd_29 wd_221) rfl rfl rfl (by decide +kernel) ⟨Nat.le_of_ble_eq_true rfl, Nat.le_of_ble_eq_true rfl⟩) (zr_preS hK (hP.sub [] rfl) [] rfl z_true (fun _ _ _ => trivial)) rfl rfl hl.1 rfl (lv_room (Nat.le_of_ble_eq_true rfl)) dSC_cell_43 ⟨Nat.le_of_ble_eq_true rfl, Nat.le_of_ble_eq_true rfl⟩) (fun rd h_rd => ?_)
        have h_rd : z_yn rd ((nI 0).toInt ≤ c1.toInt ∧ c1.toInt ≤ d1.toInt) := h_rd
        refine lv_if_eq (tgt := 53) hx hb dSC_cell_46 rfl (fun h_b => ?_) (fun h_b => ?_)
        · have h_b := z_yF h_rd h_b
          refine lv_iconst (v := nI 0) hx hb dSC_cell_53 (by decide) ?_
          exact J54 _ (z_y0 (by omega))
        · have h_b := z_yT h_rd h_b
          refine lv_iconst (v := nI 1) hx hb dSC_cell_49 (by decide) ?_
          refine lv_goto (tgt := 54) hx hb dSC_cell_50 rfl ?_
          exact J54 _ (z_y1 (by omega))
  · refine lv_iload_n hx hb dSC_cell_0 rfl (lv_at hl 1 rfl) ?_
    refine lv_iconst (v := nI 1) hx hb dSC_cell_1 (by decide) ?_
    refine lv_bipush (v := nI 6) hx hb dSC_cell_2 (by decide) ?_
    refine vp_callSi (W.runS (As := [.int a, .int (nI 1), .int (nI 6)]) (rest := []) ⟨hx, hb, hml, hown, hz⟩ (f_SC_within l dC dI a (nI 1) (nI 6) ) (va_cwS 3 hz (z_gS wd_219 wd_220 wd_29 wd_221) rfl rfl rfl (by decide +kernel) ⟨Nat.le_of_ble_eq_true rfl, Nat.le_of_ble_eq_true rfl⟩) (zr_preS hK (hP.sub [] rfl) [] rfl z_true (fun _ _ _ => trivial)) rfl rfl hl.1 rfl (lv_room (Nat.le_of_ble_eq_true rfl)) dSC_cell_4 ⟨Nat.le_of_ble_eq_true rfl, Nat.le_of_ble_eq_true rfl⟩) (fun ra h_ra => ?_)
    have h_ra : z_yn ra ((nI 1).toInt ≤ a.toInt ∧ a.toInt ≤ (nI 6).toInt) := h_ra
    refine lv_if_eq (tgt := 24) hx hb dSC_cell_7 rfl (fun h_b => ?_) (fun h_b => ?_)
    · have h_b := z_yF h_ra h_b
      refine lv_iconst (v := nI 0) hx hb dSC_cell_24 (by decide) ?_
      exact J25 _ (z_y0 (by omega))
    · have h_b := z_yT h_ra h_b
      have h_a := h_b
      refine lv_iload_n hx hb dSC_cell_10 rfl (lv_at hl 2 rfl) ?_
      refine lv_iconst (v := nI 0) hx hb dSC_cell_11 (by decide) ?_
      refine lv_bipush (v := nI 6) hx hb dSC_cell_12 (by decide) ?_
      refine vp_callSi (W.runS (As := [.int b, .int (nI 0), .int (nI 6)]) (rest := []) ⟨hx, hb, hml, hown, hz⟩ (f_SC_within l dC dI b (nI 0) (nI 6) ) (va_cwS 3 hz (z_gS wd_219 wd_220 wd_29 wd_221) rfl rfl rfl (by decide +kernel) ⟨Nat.le_of_ble_eq_true rfl, Nat.le_of_ble_eq_true rfl⟩) (zr_preS hK (hP.sub [] rfl) [] rfl z_true (fun _ _ _ => trivial)) rfl rfl hl.1 rfl (lv_room (Nat.le_of_ble_eq_true rfl)) dSC_cell_14 ⟨Nat.le_of_ble_eq_true rfl, Nat.le_of_ble_eq_true rfl⟩) (fun rb h_rb => ?_)
      have h_rb : z_yn rb ((nI 0).toInt ≤ b.toInt ∧ b.toInt ≤ (nI 6).toInt) := h_rb
      refine lv_if_eq (tgt := 24) hx hb dSC_cell_17 rfl (fun h_b => ?_) (fun h_b => ?_)
      · have h_b := z_yF h_rb h_b
        refine lv_iconst (v := nI 0) hx hb dSC_cell_24 (by decide) ?_
        exact J25 _ (z_y0 (by omega))
      · have h_b := z_yT h_rb h_b
        refine lv_iconst (v := nI 1) hx hb dSC_cell_20 (by decide) ?_
        refine lv_goto (tgt := 25) hx hb dSC_cell_21 rfl ?_
        exact J25 _ (z_y1 (by omega))
