set_option maxHeartbeats 4000000 in
set_option maxRecDepth 100000 in
theorem f_GR_drawnBetween (l : Launch) (dC : Nat → ClassId) (dI : Nat → Nat → Nat) (g : Nat) (gr : Nat) (gs : Nat) (bg : Nat) (re : Nat) (ce : Nat) (al : Nat) (ed : Nat) (cE : ClassId) (cap : Nat) (a : Nat → Option Nat) (mo : Int32) (n : Nat) (ad : Nat → Nat) (d : Nat → Nat → Nat) (c1 : Int32) (c2 : Int32) (hn : n ≤ cap) (hc : cap < 2147483648) (ha : ∀ k, k < n → a k = some (ad k)) (hd : ∀ j k, k < n → d j k ≤ 1000) (hg : gr ≤ 1000 ∧ gs ≤ 1000 ∧ bg ≤ 1000 ∧ re ≤ 1000 ∧ ce ≤ 1000) : zp_M l yGR_drawnBetween wGR_drawnBetween ({ frames := 4, cells := 0, slots := 0, locals := 85 }) [.ref g, .int c1, .int c2] (dC, dI) vwCl ([zob g 1 [.ref al, .int (nI gr), .int (nI gs), .int (nI bg), .int (nI re), .int (nI ce)], zob al 2 [.ref ed, .int (nI n), .int mo], zrf ed cE cap a] ++ zcs n ad (zcf d)) [(cE, .object "java/lang/Object")] (fun _ => True) (fun r => zDr n (d 8) (d 9) c1 c2 r) := by
  refine zp_head (cc := cGR_drawnBetween) (maxL := 3) (ret := (some .int)) (by decide +kernel) rfl (Nat.le_of_ble_eq_true rfl) ?_
  intro p e s m below meth c ls F hP hK hX hl
  obtain ⟨hx, hb, hml, hr, hlocks, hown, hts⟩ := F
  have hown : s.vm.findClass "SpannedCells$Grid" = some m.cls := hown
  have hz : ∀ w9 ∈ zT, w9.before [.ref g, .int c1, .int c2].toArray s = true := fun w9 h => hts w9 (List.mem_cons_of_mem _ h)
  have hl : lv_has ls 3 [(0, .ref g), (1, .int c1), (2, .int c2)] := hl
  refine z_q (fun Q hQ => ?_)
  refine lv_iload_n hx hb dGR_drawnBetween_0 rfl (lv_at hl 1 rfl) ?_
  refine lv_iload_n hx hb dGR_drawnBetween_1 rfl (lv_at hl 2 rfl) ?_
  refine lv_icmp_ne (tgt := 7) hx hb dGR_drawnBetween_2 rfl (fun h_e => ?_) (fun h_e => ?_)
  · refine lv_aload_n hx hb dGR_drawnBetween_7 rfl (lv_at hl 0 rfl) ?_
    refine lv_iload_n hx hb dGR_drawnBetween_8 rfl (lv_at hl 1 rfl) ?_
    refine vp_callSi (W.runV (As := [.int c1]) (rest := []) ⟨hx, hb, hml, hown, hz⟩ (f_GR_hasCell l dC dI g gr gs bg re ce al ed cE cap a mo n ad d c1 (by omega) (by omega) (ha) (hd) (hg)) (cwV 1 hz (z_gV wd_572 wd_356 wd_357 wd_30 wd_358) rfl rfl rfl (by decide +kernel) ⟨Nat.le_of_ble_eq_true rfl, Nat.le_of_ble_eq_true rfl⟩) (zr_preV hK (zt_sub hP [0, 1, 2] rfl) (va_recv (q0 := 0) hK hP (q := (RGR, TGR, 6)) rfl rfl) [0] rfl z_true (fun _ _ _ => trivial)) rfl rfl hl.1 rfl (lv_room (Nat.le_of_ble_eq_true rfl)) dGR_drawnBetween_9 ⟨Nat.le_of_ble_eq_true rfl, Nat.le_of_ble_eq_true rfl⟩) (fun ra h_ra => ?_)
    have h_ra : z_yn ra (0 ≤ c1.toInt ∧ c1.toInt < n) := h_ra
    refine lv_if_ne (tgt := 17) hx hb dGR_drawnBetween_12 rfl (fun h_b => ?_) (fun h_b => ?_)
    · have h_b := z_yT h_ra h_b
      have h_a := h_b
      refine lv_aload_n hx hb dGR_drawnBetween_17 rfl (lv_at hl 0 rfl) ?_
      refine lv_iload_n hx hb dGR_drawnBetween_18 rfl (lv_at hl 2 rfl) ?_
      refine vp_callSi (W.runV (As := [.int c2]) (rest := []) ⟨hx, hb, hml, hown, hz⟩ (f_GR_hasCell l dC dI g gr gs bg re ce al ed cE cap a mo n ad d c2 (by omega) (by omega) (ha) (hd) (hg)) (cwV 1 hz (z_gV wd_572 wd_356 wd_357 wd_30 wd_358) rfl rfl rfl (by decide +kernel) ⟨Nat.le_of_ble_eq_true rfl, Nat.le_of_ble_eq_true rfl⟩) (zr_preV hK (zt_sub hP [0, 1, 2] rfl) (va_recv (q0 := 0) hK hP (q := (RGR, TGR, 6)) rfl rfl) [0] rfl z_true (fun _ _ _ => trivial)) rfl rfl hl.1 rfl (lv_room (Nat.le_of_ble_eq_true rfl)) dGR_drawnBetween_19 ⟨Nat.le_of_ble_eq_true rfl, Nat.le_of_ble_eq_true rfl⟩) (fun rb h_rb => ?_)
      have h_rb : z_yn rb (0 ≤ c2.toInt ∧ c2.toInt < n) := h_rb
      refine lv_if_ne (tgt := 27) hx hb dGR_drawnBetween_22 rfl (fun h_c => ?_) (fun h_c => ?_)
      · have h_c := z_yT h_rb h_c
        obtain ⟨k1, hk1, rfl⟩ := z_ofIn h_a.1 h_a.2 (by omega)
        obtain ⟨k2, hk2, rfl⟩ := z_ofIn h_c.1 h_c.2 (by omega)
        refine lv_aload_n hx hb dGR_drawnBetween_27 rfl (lv_at hl 0 rfl) ?_
        refine lv_iload_n hx hb dGR_drawnBetween_28 rfl (lv_at hl 2 rfl) ?_
        refine va_csr (W.runV (As := [.int (nI k2)]) (rest := []) ⟨hx, hb, hml, hown, hz⟩ (f_GR_cellAt l dC dI g gr gs bg re ce al ed cE cap a mo n ad d k2 (by omega) (by omega) (ha) (hd) (hg) (by omega)) (cwV 1 hz (z_gV wd_573 wd_360 wd_361 wd_30 wd_362) rfl rfl rfl (by decide +kernel) ⟨Nat.le_of_ble_eq_true rfl, Nat.le_of_ble_eq_true rfl⟩) (zr_preV hK (zt_sub hP [0, 1, 2] rfl) (va_recv (q0 := 0) hK hP (q := (RGR, TGR, 6)) rfl rfl) [0] rfl z_true (fun _ _ _ => trivial)) rfl rfl hl.1 rfl (lv_room (Nat.le_of_ble_eq_true rfl)) dGR_drawnBetween_29 ⟨Nat.le_of_ble_eq_true rfl, Nat.le_of_ble_eq_true rfl⟩) (fun r4 h_r4 => ?_)
        have h_r4 : r4 = ad k2 := h_r4
        subst h_r4
        refine lv_aload_n hx hb dGR_drawnBetween_32 rfl (lv_at hl 0 rfl) ?_
        refine lv_iload_n hx hb dGR_drawnBetween_33 rfl (lv_at hl 1 rfl) ?_
        refine va_csr (W.runV (As := [.int (nI k1)]) (rest := [.ref (ad k2)]) ⟨hx, hb, hml, hown, hz⟩ (f_GR_cellAt l dC dI g gr gs bg re ce al ed cE cap a mo n ad d k1 (by omega) (by omega) (ha) (hd) (hg) (by omega)) (cwV 1 hz (z_gV wd_573 wd_360 wd_361 wd_30 wd_362) rfl rfl rfl (by decide +kernel) ⟨Nat.le_of_ble_eq_true rfl, Nat.le_of_ble_eq_true rfl⟩) (zr_preV hK (zt_sub hP [0, 1, 2] rfl) (va_recv (q0 := 0) hK hP (q := (RGR, TGR, 6)) rfl rfl) [0] rfl z_true (fun _ _ _ => trivial)) rfl rfl hl.1 rfl (lv_room (Nat.le_of_ble_eq_true rfl)) dGR_drawnBetween_34 ⟨Nat.le_of_ble_eq_true rfl, Nat.le_of_ble_eq_true rfl⟩) (fun r5 h_r5 => ?_)
        have h_r5 : r5 = ad k1 := h_r5
        subst h_r5
        refine vp_callSi (W.runV (As := [.ref (ad k1)]) (rest := []) ⟨hx, hb, hml, hown, hz⟩ (f_CE_prevailsOver l dC dI (ad k2) (d 0 k2) (d 1 k2) (d 2 k2) (d 3 k2) (d 4 k2) (d 5 k2) (d 6 k2) (d 7 k2) (d 8 k2) (d 9 k2) (ad k1) (d 0 k1) (d 1 k1) (d 2 k1) (d 3 k1) (d 4 k1) (d 5 k1) (d 6 k1) (d 7 k1) (d 8 k1) (d 9 k1) (by have := hd 8 k2 hk2; have := hd 9 k2 hk2; have := hd 8 k1 hk1; have := hd 9 k1 hk1; omega)) (cwV 1 hz (z_gV wd_574 wd_575 wd_576 wd_41 wd_577) rfl rfl rfl (by decide +kernel) ⟨Nat.le_of_ble_eq_true rfl, Nat.le_of_ble_eq_true rfl⟩) (zr_preV hK (zt_two hP (zcs_get rfl (by omega)) (zcs_get rfl (by omega))) (va_recv hK hP (q := (RCE, TCE, 10)) rfl (zcs_get rfl (by omega))) [] rfl z_true (fun _ _ _ => trivial)) rfl rfl hl.1 rfl (lv_room (Nat.le_of_ble_eq_true rfl)) dGR_drawnBetween_37 ⟨Nat.le_of_ble_eq_true rfl, Nat.le_of_ble_eq_true rfl⟩) (fun rp h_rp => ?_)
        have h_rp : z_yn rp (zPv (d 8 k2) (d 9 k2) (d 8 k1) (d 9 k1)) := h_rp
        refine lv_if_eq (tgt := 47) hx hb dGR_drawnBetween_40 rfl (fun h_b => ?_) (fun h_b => ?_)
        · have h_b := z_yF h_rp h_b
          refine lv_iload_n hx hb dGR_drawnBetween_47 rfl (lv_at hl 1 rfl) ?_
          subst hQ
          exact zp_iret hx hb hr hlocks (Or.inr (Or.inr (Or.inr ⟨h_e, k1, k2, hk1, hk2, rfl, rfl, Or.inr ⟨h_b, rfl⟩⟩))) dGR_drawnBetween_48
        · have h_b := z_yT h_rp h_b
          refine lv_iload_n hx hb dGR_drawnBetween_43 rfl (lv_at hl 2 rfl) ?_
          refine lv_goto (tgt := 48) hx hb dGR_drawnBetween_44 rfl ?_
          subst hQ
          exact zp_iret hx hb hr hlocks (Or.inr (Or.inr (Or.inr ⟨h_e, k1, k2, hk1, hk2, rfl, rfl, Or.inl ⟨h_b, rfl⟩⟩))) dGR_drawnBetween_48
      · have h_c := z_yF h_rb h_c
        refine lv_iload_n hx hb dGR_drawnBetween_25 rfl (lv_at hl 1 rfl) ?_
        subst hQ
        exact zp_iret hx hb hr hlocks (Or.inr (Or.inr (Or.inl ⟨h_e, h_a, h_c, rfl⟩))) dGR_drawnBetween_26
    · have h_b := z_yF h_ra h_b
      refine lv_iload_n hx hb dGR_drawnBetween_15 rfl (lv_at hl 2 rfl) ?_
      subst hQ
      exact zp_iret hx hb hr hlocks (Or.inr (Or.inl ⟨h_e, h_b, rfl⟩)) dGR_drawnBetween_16
  · refine lv_iconst (v := (-1)) hx hb dGR_drawnBetween_5 (by decide) ?_
    subst hQ
    exact zp_iret hx hb hr hlocks (Or.inl ⟨h_e, rfl⟩) dGR_drawnBetween_6

set_option maxHeartbeats 4000000 in
set_option maxRecDepth 100000 in
theorem f_SC_columns (l : Launch) (dC : Nat → ClassId) (dI : Nat → Nat → Nat) (h0 : Nat) (wd : Nat) (hh : Nat) (sp : Nat) (gp : Nat) (fx : Nat) (g : Nat) (gr : Nat) (gs : Nat) (bg : Nat) (re : Nat) (ce : Nat) (al : Nat) (ed : Nat) (cE : ClassId) (cap : Nat) (a : Nat → Option Nat) (mo : Int32) (n : Nat) (ad : Nat → Nat) (d : Nat → Nat → Nat) (hn : n ≤ cap) (hc : cap < 2147483648) (ha : ∀ k, k < n → a k = some (ad k)) (hd : ∀ j k, k < n → d j k ≤ 1000) (hg : gr ≤ 1000 ∧ gs ≤ 1000 ∧ bg ≤ 1000 ∧ re ≤ 1000 ∧ ce ≤ 1000) : zp_M l ySC_columns wSC_columns ({ frames := 1, cells := 0, slots := 0, locals := 20 }) [.ref h0] (dC, dI) vwCl ([zob h0 0 [.ref g, .ref wd, .ref hh, .int (nI sp), .int (nI gp), .int (nI fx)], zob g 1 [.ref al, .int (nI gr), .int (nI gs), .int (nI bg), .int (nI re), .int (nI ce)], zob al 2 [.ref ed, .int (nI n), .int mo], zrf ed cE cap a] ++ zcs n ad (zcf d)) [(cE, .object "java/lang/Object")] (fun _ => True) (fun r => r = nI ce) := by
  refine zp_head (cc := cSC_columns) (maxL := 1) (ret := (some .int)) (by decide +kernel) rfl (Nat.le_of_ble_eq_true rfl) ?_
  intro p e s m below meth c ls F hP hK hX hl
  obtain ⟨hx, hb, hml, hr, hlocks, hown, hts⟩ := F
  have hown : s.vm.findClass "SpannedCells" = some m.cls := hown
  have hz : ∀ w9 ∈ zT, w9.before [.ref h0].toArray s = true := fun w9 h => hts w9 (List.mem_cons_of_mem _ h)
  have hl : lv_has ls 1 [(0, .ref h0)] := hl
  refine z_q (fun Q hQ => ?_)
  refine lv_aload_n hx hb dSC_columns_0 rfl (lv_at hl 0 rfl) ?_
  refine va_get (D := (dC, dI)) (ci := 0) (v := .ref g) (C := RSC) (T := TSC) (N := 6) hx hb hz in_SC hown hK hP 0 rfl rfl 0 (by decide) (hz _ wd_150) (fun _ h9 => h9) rfl dSC_columns_1 ?_
  refine vp_callSi (W.runV (As := []) (rest := []) ⟨hx, hb, hml, hown, hz⟩ (f_GR_columnCount l dC dI g gr gs bg re ce al ed cE cap a mo n ad d (by omega) (by omega) (ha) (hd) (hg)) (cwV 0 hz (z_gV wd_391 wd_392 wd_393 wd_30 wd_394) rfl rfl rfl (by decide +kernel) ⟨Nat.le_of_ble_eq_true rfl, Nat.le_of_ble_eq_true rfl⟩) (zr_preV hK (zt_sub hP [1, 2, 3] rfl) (va_recv (q0 := 1) hK hP (q := (RGR, TGR, 6)) rfl rfl) [0] rfl z_true (fun _ _ _ => trivial)) rfl rfl hl.1 rfl (lv_room (Nat.le_of_ble_eq_true rfl)) dSC_columns_4 ⟨Nat.le_of_ble_eq_true rfl, Nat.le_of_ble_eq_true rfl⟩) (fun r1 h_r1 => ?_)
  have h_r1 : r1 = nI ce := h_r1
  subst h_r1
  subst hQ
  exact zp_iret hx hb hr hlocks (rfl) dSC_columns_7

set_option maxHeartbeats 4000000 in
set_option maxRecDepth 100000 in
theorem f_SC_rows (l : Launch) (dC : Nat → ClassId) (dI : Nat → Nat → Nat) (h0 : Nat) (wd : Nat) (hh : Nat) (sp : Nat) (gp : Nat) (fx : Nat) (g : Nat) (gr : Nat) (gs : Nat) (bg : Nat) (re : Nat) (ce : Nat) (al : Nat) (ed : Nat) (cE : ClassId) (cap : Nat) (a : Nat → Option Nat) (mo : Int32) (n : Nat) (ad : Nat → Nat) (d : Nat → Nat → Nat) (hn : n ≤ cap) (hc : cap < 2147483648) (ha : ∀ k, k < n → a k = some (ad k)) (hd : ∀ j k, k < n → d j k ≤ 1000) (hg : gr ≤ 1000 ∧ gs ≤ 1000 ∧ bg ≤ 1000 ∧ re ≤ 1000 ∧ ce ≤ 1000) : zp_M l ySC_rows wSC_rows ({ frames := 1, cells := 0, slots := 0, locals := 20 }) [.ref h0] (dC, dI) vwCl ([zob h0 0 [.ref g, .ref wd, .ref hh, .int (nI sp), .int (nI gp), .int (nI fx)], zob g 1 [.ref al, .int (nI gr), .int (nI gs), .int (nI bg), .int (nI re), .int (nI ce)], zob al 2 [.ref ed, .int (nI n), .int mo], zrf ed cE cap a] ++ zcs n ad (zcf d)) [(cE, .object "java/lang/Object")] (fun _ => True) (fun r => r = nI re) := by
  refine zp_head (cc := cSC_rows) (maxL := 1) (ret := (some .int)) (by decide +kernel) rfl (Nat.le_of_ble_eq_true rfl) ?_
  intro p e s m below meth c ls F hP hK hX hl
  obtain ⟨hx, hb, hml, hr, hlocks, hown, hts⟩ := F
  have hown : s.vm.findClass "SpannedCells" = some m.cls := hown
  have hz : ∀ w9 ∈ zT, w9.before [.ref h0].toArray s = true := fun w9 h => hts w9 (List.mem_cons_of_mem _ h)
  have hl : lv_has ls 1 [(0, .ref h0)] := hl
  refine z_q (fun Q hQ => ?_)
  refine lv_aload_n hx hb dSC_rows_0 rfl (lv_at hl 0 rfl) ?_
  refine va_get (D := (dC, dI)) (ci := 0) (v := .ref g) (C := RSC) (T := TSC) (N := 6) hx hb hz in_SC hown hK hP 0 rfl rfl 0 (by decide) (hz _ wd_150) (fun _ h9 => h9) rfl dSC_rows_1 ?_
  refine vp_callSi (W.runV (As := []) (rest := []) ⟨hx, hb, hml, hown, hz⟩ (f_GR_rowCount l dC dI g gr gs bg re ce al ed cE cap a mo n ad d (by omega) (by omega) (ha) (hd) (hg)) (cwV 0 hz (z_gV wd_399 wd_400 wd_401 wd_30 wd_402) rfl rfl rfl (by decide +kernel) ⟨Nat.le_of_ble_eq_true rfl, Nat.le_of_ble_eq_true rfl⟩) (zr_preV hK (zt_sub hP [1, 2, 3] rfl) (va_recv (q0 := 1) hK hP (q := (RGR, TGR, 6)) rfl rfl) [0] rfl z_true (fun _ _ _ => trivial)) rfl rfl hl.1 rfl (lv_room (Nat.le_of_ble_eq_true rfl)) dSC_rows_4 ⟨Nat.le_of_ble_eq_true rfl, Nat.le_of_ble_eq_true rfl⟩) (fun r1 h_r1 => ?_)
  have h_r1 : r1 = nI re := h_r1
  subst h_r1
  subst hQ
  exact zp_iret hx hb hr hlocks (rfl) dSC_rows_7

set_option maxHeartbeats 4000000 in
set_option maxRecDepth 100000 in
theorem f_SC_slot (l : Launch) (dC : Nat → ClassId) (dI : Nat → Nat → Nat) (h0 : Nat) (wd : Nat) (hh : Nat) (sp : Nat) (gp : Nat) (fx : Nat) (g : Nat) (gr : Nat) (gs : Nat) (bg : Nat) (re : Nat) (ce : Nat) (al : Nat) (ed : Nat) (cE : ClassId) (cap : Nat) (a : Nat → Option Nat) (mo : Int32) (n : Nat) (ad : Nat → Nat) (d : Nat → Nat → Nat) (x : Int32) (y : Int32) (hn : n ≤ cap) (hc : cap < 2147483648) (ha : ∀ k, k < n → a k = some (ad k)) (hd : ∀ j k, k < n → d j k ≤ 1000) (hg : gr ≤ 1000 ∧ gs ≤ 1000 ∧ bg ≤ 1000 ∧ re ≤ 1000 ∧ ce ≤ 1000) : zp_M l ySC_slot wSC_slot ({ frames := 4, cells := 0, slots := 0, locals := 87 }) [.ref h0, .int x, .int y] (dC, dI) vwCl ([zob h0 0 [.ref g, .ref wd, .ref hh, .int (nI sp), .int (nI gp), .int (nI fx)], zob g 1 [.ref al, .int (nI gr), .int (nI gs), .int (nI bg), .int (nI re), .int (nI ce)], zob al 2 [.ref ed, .int (nI n), .int mo], zrf ed cE cap a] ++ zcs n ad (zcf d)) [(cE, .object "java/lang/Object")] (fun _ => True) (fun r => zFst n (fun k => zTd d k x y) r) := by
  refine zp_head (cc := cSC_slot) (maxL := 3) (ret := (some .int)) (by decide +kernel) rfl (Nat.le_of_ble_eq_true rfl) ?_
  intro p e s m below meth c ls F hP hK hX hl
  obtain ⟨hx, hb, hml, hr, hlocks, hown, hts⟩ := F
  have hown : s.vm.findClass "SpannedCells" = some m.cls := hown
  have hz : ∀ w9 ∈ zT, w9.before [.ref h0, .int x, .int y].toArray s = true := fun w9 h => hts w9 (List.mem_cons_of_mem _ h)
  have hl : lv_has ls 3 [(0, .ref h0), (1, .int x), (2, .int y)] := hl
  refine z_q (fun Q hQ => ?_)
  refine lv_aload_n hx hb dSC_slot_0 rfl (lv_at hl 0 rfl) ?_
  refine va_get (D := (dC, dI)) (ci := 0) (v := .ref g) (C := RSC) (T := TSC) (N := 6) hx hb hz in_SC hown hK hP 0 rfl rfl 0 (by decide) (hz _ wd_150) (fun _ h9 => h9) rfl dSC_slot_1 ?_
  refine lv_iload_n hx hb dSC_slot_4 rfl (lv_at hl 1 rfl) ?_
  refine lv_iload_n hx hb dSC_slot_5 rfl (lv_at hl 2 rfl) ?_
  refine vp_callSi (W.runV (As := [.int x, .int y]) (rest := []) ⟨hx, hb, hml, hown, hz⟩ (f_GR_ownerOf l dC dI g gr gs bg re ce al ed cE cap a mo n ad d x y (by omega) (by omega) (ha) (hd) (hg)) (cwV 2 hz (z_gV wd_407 wd_231 wd_232 wd_30 wd_233) rfl rfl rfl (by decide +kernel) ⟨Nat.le_of_ble_eq_true rfl, Nat.le_of_ble_eq_true rfl⟩) (zr_preV hK (zt_sub hP [1, 2, 3] rfl) (va_recv (q0 := 1) hK hP (q := (RGR, TGR, 6)) rfl rfl) [0] rfl z_true (fun _ _ _ => trivial)) rfl rfl hl.1 rfl (lv_room (Nat.le_of_ble_eq_true rfl)) dSC_slot_6 ⟨Nat.le_of_ble_eq_true rfl, Nat.le_of_ble_eq_true rfl⟩) (fun ro h_ro => ?_)
  have h_ro : zFst n (fun k => zTd d k x y) ro := h_ro
  subst hQ
  exact zp_iret hx hb hr hlocks (h_ro) dSC_slot_9

set_option maxHeartbeats 4000000 in
set_option maxRecDepth 100000 in
theorem f_SC_overlaps (l : Launch) (dC : Nat → ClassId) (dI : Nat → Nat → Nat) (h0 : Nat) (wd : Nat) (hh : Nat) (sp : Nat) (gp : Nat) (fx : Nat) (g : Nat) (gr : Nat) (gs : Nat) (bg : Nat) (re : Nat) (ce : Nat) (al : Nat) (ed : Nat) (cE : ClassId) (cap : Nat) (a : Nat → Option Nat) (mo : Int32) (n : Nat) (ad : Nat → Nat) (d : Nat → Nat → Nat) (hn : n ≤ cap) (hc : cap < 2147483648) (ha : ∀ k, k < n → a k = some (ad k)) (hd : ∀ j k, k < n → d j k ≤ 1000) (hg : gr ≤ 1000 ∧ gs ≤ 1000 ∧ bg ≤ 1000 ∧ re ≤ 1000 ∧ ce ≤ 1000) : zp_M l ySC_overlaps wSC_overlaps ({ frames := 6, cells := 0, slots := 0, locals := 132 }) [.ref h0] (dC, dI) vwCl ([zob h0 0 [.ref g, .ref wd, .ref hh, .int (nI sp), .int (nI gp), .int (nI fx)], zob g 1 [.ref al, .int (nI gr), .int (nI gs), .int (nI bg), .int (nI re), .int (nI ce)], zob al 2 [.ref ed, .int (nI n), .int mo], zrf ed cE cap a] ++ zcs n ad (zcf d)) [(cE, .object "java/lang/Object")] (fun _ => True) (fun r => r = nI (zSum (fun k => d 2 k * d 7 k) n) - nI (zSum (fun y => zCn (fun x => zOwd n d x y) ce) re)) := by
  refine zp_head (cc := cSC_overlaps) (maxL := 1) (ret := (some .int)) (by decide +kernel) rfl (Nat.le_of_ble_eq_true rfl) ?_
  intro p e s m below meth c ls F hP hK hX hl
  obtain ⟨hx, hb, hml, hr, hlocks, hown, hts⟩ := F
  have hown : s.vm.findClass "SpannedCells" = some m.cls := hown
  have hz : ∀ w9 ∈ zT, w9.before [.ref h0].toArray s = true := fun w9 h => hts w9 (List.mem_cons_of_mem _ h)
  have hl : lv_has ls 1 [(0, .ref h0)] := hl
  refine z_q (fun Q hQ => ?_)
  refine lv_aload_n hx hb dSC_overlaps_0 rfl (lv_at hl 0 rfl) ?_
  refine va_get (D := (dC, dI)) (ci := 0) (v := .ref g) (C := RSC) (T := TSC) (N := 6) hx hb hz in_SC hown hK hP 0 rfl rfl 0 (by decide) (hz _ wd_150) (fun _ h9 => h9) rfl dSC_overlaps_1 ?_
  refine vp_callSi (W.runV (As := []) (rest := []) ⟨hx, hb, hml, hown, hz⟩ (f_GR_countOverlaps l dC dI g gr gs bg re ce al ed cE cap a mo n ad d (by omega) (by omega) (ha) (hd) (hg)) (cwV 0 hz (z_gV wd_412 wd_413 wd_414 wd_30 wd_415) rfl rfl rfl (by decide +kernel) ⟨Nat.le_of_ble_eq_true rfl, Nat.le_of_ble_eq_true rfl⟩) (zr_preV hK (zt_sub hP [1, 2, 3] rfl) (va_recv (q0 := 1) hK hP (q := (RGR, TGR, 6)) rfl rfl) [0] rfl z_true (fun _ _ _ => trivial)) rfl rfl hl.1 rfl (lv_room (Nat.le_of_ble_eq_true rfl)) dSC_overlaps_4 ⟨Nat.le_of_ble_eq_true rfl, Nat.le_of_ble_eq_true rfl⟩) (fun r1 h_r1 => ?_)
  have h_r1 : r1 = nI (zSum (fun k => d 2 k * d 7 k) n) - nI (zSum (fun y => zCn (fun x => zOwd n d x y) ce) re) := h_r1
  subst h_r1
  subst hQ
  exact zp_iret hx hb hr hlocks (rfl) dSC_overlaps_7

set_option maxHeartbeats 4000000 in
set_option maxRecDepth 100000 in
theorem f_SC_empties (l : Launch) (dC : Nat → ClassId) (dI : Nat → Nat → Nat) (h0 : Nat) (wd : Nat) (hh : Nat) (sp : Nat) (gp : Nat) (fx : Nat) (g : Nat) (gr : Nat) (gs : Nat) (bg : Nat) (re : Nat) (ce : Nat) (al : Nat) (ed : Nat) (cE : ClassId) (cap : Nat) (a : Nat → Option Nat) (mo : Int32) (n : Nat) (ad : Nat → Nat) (d : Nat → Nat → Nat) (hn : n ≤ cap) (hc : cap < 2147483648) (ha : ∀ k, k < n → a k = some (ad k)) (hd : ∀ j k, k < n → d j k ≤ 1000) (hg : gr ≤ 1000 ∧ gs ≤ 1000 ∧ bg ≤ 1000 ∧ re ≤ 1000 ∧ ce ≤ 1000) : zp_M l ySC_empties wSC_empties ({ frames := 5, cells := 0, slots := 0, locals := 108 }) [.ref h0] (dC, dI) vwCl ([zob h0 0 [.ref g, .ref wd, .ref hh, .int (nI sp), .int (nI gp), .int (nI fx)], zob g 1 [.ref al, .int (nI gr), .int (nI gs), .int (nI bg), .int (nI re), .int (nI ce)], zob al 2 [.ref ed, .int (nI n), .int mo], zrf ed cE cap a] ++ zcs n ad (zcf d)) [(cE, .object "java/lang/Object")] (fun _ => True) (fun r => r = nI (zCn (zEc n (d 0)) ce + 100 * zCn (zEc n (d 1)) re)) := by
  refine zp_head (cc := cSC_empties) (maxL := 1) (ret := (some .int)) (by decide +kernel) rfl (Nat.le_of_ble_eq_true rfl) ?_
  intro p e s m below meth c ls F hP hK hX hl
  obtain ⟨hx, hb, hml, hr, hlocks, hown, hts⟩ := F
  have hown : s.vm.findClass "SpannedCells" = some m.cls := hown
  have hz : ∀ w9 ∈ zT, w9.before [.ref h0].toArray s = true := fun w9 h => hts w9 (List.mem_cons_of_mem _ h)
  have hl : lv_has ls 1 [(0, .ref h0)] := hl
  refine z_q (fun Q hQ => ?_)
  refine lv_aload_n hx hb dSC_empties_0 rfl (lv_at hl 0 rfl) ?_
  refine va_get (D := (dC, dI)) (ci := 0) (v := .ref g) (C := RSC) (T := TSC) (N := 6) hx hb hz in_SC hown hK hP 0 rfl rfl 0 (by decide) (hz _ wd_150) (fun _ h9 => h9) rfl dSC_empties_1 ?_
  refine vp_callSi (W.runV (As := []) (rest := []) ⟨hx, hb, hml, hown, hz⟩ (f_GR_countEmptyColumns l dC dI g gr gs bg re ce al ed cE cap a mo n ad d (by omega) (by omega) (ha) (hd) (hg)) (cwV 0 hz (z_gV wd_424 wd_425 wd_426 wd_30 wd_427) rfl rfl rfl (by decide +kernel) ⟨Nat.le_of_ble_eq_true rfl, Nat.le_of_ble_eq_true rfl⟩) (zr_preV hK (zt_sub hP [1, 2, 3] rfl) (va_recv (q0 := 1) hK hP (q := (RGR, TGR, 6)) rfl rfl) [0] rfl z_true (fun _ _ _ => trivial)) rfl rfl hl.1 rfl (lv_room (Nat.le_of_ble_eq_true rfl)) dSC_empties_4 ⟨Nat.le_of_ble_eq_true rfl, Nat.le_of_ble_eq_true rfl⟩) (fun r1 h_r1 => ?_)
  have h_r1 : r1 = nI (zCn (zEc n (d 0)) ce) := h_r1
  subst h_r1
  refine lv_bipush (v := nI 100) hx hb dSC_empties_7 (by decide) ?_
  refine lv_aload_n hx hb dSC_empties_9 rfl (lv_at hl 0 rfl) ?_
  refine va_get (D := (dC, dI)) (ci := 0) (v := .ref g) (C := RSC) (T := TSC) (N := 6) hx hb hz in_SC hown hK hP 0 rfl rfl 0 (by decide) (hz _ wd_150) (fun _ h9 => h9) rfl dSC_empties_10 ?_
  refine vp_callSi (W.runV (As := []) (rest := [.int (nI 100), .int (nI (zCn (zEc n (d 0)) ce))]) ⟨hx, hb, hml, hown, hz⟩ (f_GR_countEmptyRows l dC dI g gr gs bg re ce al ed cE cap a mo n ad d (by omega) (by omega) (ha) (hd) (hg)) (cwV 0 hz (z_gV wd_432 wd_433 wd_434 wd_30 wd_435) rfl rfl rfl (by decide +kernel) ⟨Nat.le_of_ble_eq_true rfl, Nat.le_of_ble_eq_true rfl⟩) (zr_preV hK (zt_sub hP [1, 2, 3] rfl) (va_recv (q0 := 1) hK hP (q := (RGR, TGR, 6)) rfl rfl) [0] rfl z_true (fun _ _ _ => trivial)) rfl rfl hl.1 rfl (lv_room (Nat.le_of_ble_eq_true rfl)) dSC_empties_13 ⟨Nat.le_of_ble_eq_true rfl, Nat.le_of_ble_eq_true rfl⟩) (fun r2 h_r2 => ?_)
  have h_r2 : r2 = nI (zCn (zEc n (d 1)) re) := h_r2
  subst h_r2
  refine lv_imul hx hb dSC_empties_16 ?_
  refine lv_topi (fun x3 e4 => ?_)
  have e4 : x3 = nI (100 * (zCn (zEc n (d 1)) re)) := e4.trans (pk_mul _ _)
  subst e4
  refine lv_iadd hx hb dSC_empties_17 ?_
  refine lv_topi (fun x5 e6 => ?_)
  have e6 : x5 = nI ((zCn (zEc n (d 0)) ce) + (100 * (zCn (zEc n (d 1)) re))) := e6.trans (nI_add _ _)
  subst e6
  subst hQ
  exact zp_iret hx hb hr hlocks (rfl) dSC_empties_18

set_option maxHeartbeats 4000000 in
set_option maxRecDepth 100000 in
theorem f_SC_span (l : Launch) (dC : Nat → ClassId) (dI : Nat → Nat → Nat) (h0 : Nat) (wd : Nat) (hh : Nat) (sp : Nat) (gp : Nat) (fx : Nat) (g : Nat) (gr : Nat) (gs : Nat) (bg : Nat) (re : Nat) (ce : Nat) (al : Nat) (ed : Nat) (cE : ClassId) (cap : Nat) (a : Nat → Option Nat) (mo : Int32) (n : Nat) (ad : Nat → Nat) (d : Nat → Nat → Nat) (k : Int32) (hn : n ≤ cap) (hc : cap < 2147483648) (ha : ∀ k, k < n → a k = some (ad k)) (hd : ∀ j k, k < n → d j k ≤ 1000) (hg : gr ≤ 1000 ∧ gs ≤ 1000 ∧ bg ≤ 1000 ∧ re ≤ 1000 ∧ ce ≤ 1000) : zp_M l ySC_span wSC_span ({ frames := 4, cells := 0, slots := 0, locals := 85 }) [.ref h0, .int k] (dC, dI) vwCl ([zob h0 0 [.ref g, .ref wd, .ref hh, .int (nI sp), .int (nI gp), .int (nI fx)], zob g 1 [.ref al, .int (nI gr), .int (nI gs), .int (nI bg), .int (nI re), .int (nI ce)], zob al 2 [.ref ed, .int (nI n), .int mo], zrf ed cE cap a] ++ zcs n ad (zcf d)) [(cE, .object "java/lang/Object")] (fun _ => True) (fun r => (¬ (0 ≤ k.toInt ∧ k.toInt < n) ∧ r = -1) ∨ ∃ k0, k0 < n ∧ k = nI k0 ∧ r = nI (((d 0 k0 + 100 * d 1 k0) + 10000 * d 2 k0) + 1000000 * d 7 k0)) := by
  refine zp_head (cc := cSC_span) (maxL := 3) (ret := (some .int)) (by decide +kernel) rfl (Nat.le_of_ble_eq_true rfl) ?_
  intro p e s m below meth c ls F hP hK hX hl
  obtain ⟨hx, hb, hml, hr, hlocks, hown, hts⟩ := F
  have hown : s.vm.findClass "SpannedCells" = some m.cls := hown
  have hz : ∀ w9 ∈ zT, w9.before [.ref h0, .int k].toArray s = true := fun w9 h => hts w9 (List.mem_cons_of_mem _ h)
  have hl : lv_has ls 3 [(0, .ref h0), (1, .int k)] := hl
  refine z_q (fun Q hQ => ?_)
  refine lv_aload_n hx hb dSC_span_0 rfl (lv_at hl 0 rfl) ?_
  refine va_get (D := (dC, dI)) (ci := 0) (v := .ref g) (C := RSC) (T := TSC) (N := 6) hx hb hz in_SC hown hK hP 0 rfl rfl 0 (by decide) (hz _ wd_150) (fun _ h9 => h9) rfl dSC_span_1 ?_
  refine lv_iload_n hx hb dSC_span_4 rfl (lv_at hl 1 rfl) ?_
  refine vp_callSi (W.runV (As := [.int k]) (rest := []) ⟨hx, hb, hml, hown, hz⟩ (f_GR_hasCell l dC dI g gr gs bg re ce al ed cE cap a mo n ad d k (by omega) (by omega) (ha) (hd) (hg)) (cwV 1 hz (z_gV wd_355 wd_356 wd_357 wd_30 wd_358) rfl rfl rfl (by decide +kernel) ⟨Nat.le_of_ble_eq_true rfl, Nat.le_of_ble_eq_true rfl⟩) (zr_preV hK (zt_sub hP [1, 2, 3] rfl) (va_recv (q0 := 1) hK hP (q := (RGR, TGR, 6)) rfl rfl) [0] rfl z_true (fun _ _ _ => trivial)) rfl rfl hl.1 rfl (lv_room (Nat.le_of_ble_eq_true rfl)) dSC_span_5 ⟨Nat.le_of_ble_eq_true rfl, Nat.le_of_ble_eq_true rfl⟩) (fun ra h_ra => ?_)
  have h_ra : z_yn ra (0 ≤ k.toInt ∧ k.toInt < n) := h_ra
  refine lv_if_ne (tgt := 13) hx hb dSC_span_8 rfl (fun h_b => ?_) (fun h_b => ?_)
  · have h_b := z_yT h_ra h_b
    obtain ⟨k0, hk0, rfl⟩ := z_ofIn h_b.1 h_b.2 (by omega)
    refine lv_aload_n hx hb dSC_span_13 rfl (lv_at hl 0 rfl) ?_
    refine va_get (D := (dC, dI)) (ci := 0) (v := .ref g) (C := RSC) (T := TSC) (N := 6) hx hb hz in_SC hown hK hP 0 rfl rfl 0 (by decide) (hz _ wd_150) (fun _ h9 => h9) rfl dSC_span_14 ?_
    refine lv_iload_n hx hb dSC_span_17 rfl (lv_at hl 1 rfl) ?_
    refine va_csr (W.runV (As := [.int (nI k0)]) (rest := []) ⟨hx, hb, hml, hown, hz⟩ (f_GR_cellAt l dC dI g gr gs bg re ce al ed cE cap a mo n ad d k0 (by omega) (by omega) (ha) (hd) (hg) (by omega)) (cwV 1 hz (z_gV wd_359 wd_360 wd_361 wd_30 wd_362) rfl rfl rfl (by decide +kernel) ⟨Nat.le_of_ble_eq_true rfl, Nat.le_of_ble_eq_true rfl⟩) (zr_preV hK (zt_sub hP [1, 2, 3] rfl) (va_recv (q0 := 1) hK hP (q := (RGR, TGR, 6)) rfl rfl) [0] rfl z_true (fun _ _ _ => trivial)) rfl rfl hl.1 rfl (lv_room (Nat.le_of_ble_eq_true rfl)) dSC_span_18 ⟨Nat.le_of_ble_eq_true rfl, Nat.le_of_ble_eq_true rfl⟩) (fun r2 h_r2 => ?_)
    have h_r2 : r2 = ad k0 := h_r2
    subst h_r2
    refine lv_astore_n hx hb dSC_span_21 rfl hl (Nat.le_of_ble_eq_true rfl) rfl (fun ls hl => ?_)
    have hl : lv_has ls 3 [(2, .ref (ad k0)), (0, .ref h0), (1, .int (nI k0))] := hl
    refine lv_aload_n hx hb dSC_span_22 rfl (lv_at hl 0 rfl) ?_
    refine va_get (D := (dC, dI)) (ci := 7) (v := .int (nI (d 0 k0))) (C := RCE) (T := TCE) (N := 10) hx hb hz in_CE hown hK hP (4 + k0) (zcs_get rfl (by omega)) rfl 0 (by decide) (hz _ wd_253) (fun _ h9 => h9) rfl dSC_span_23 ?_
    refine lv_bipush (v := nI 100) hx hb dSC_span_26 (by decide) ?_
    refine lv_aload_n hx hb dSC_span_28 rfl (lv_at hl 0 rfl) ?_
    refine va_get (D := (dC, dI)) (ci := 7) (v := .int (nI (d 1 k0))) (C := RCE) (T := TCE) (N := 10) hx hb hz in_CE hown hK hP (4 + k0) (zcs_get rfl (by omega)) rfl 1 (by decide) (hz _ wd_259) (fun _ h9 => h9) rfl dSC_span_29 ?_
    refine lv_imul hx hb dSC_span_32 ?_
    refine lv_topi (fun x3 e4 => ?_)
    have e4 : x3 = nI (100 * (d 1 k0)) := e4.trans (pk_mul _ _)
    subst e4
    refine lv_iadd hx hb dSC_span_33 ?_
    refine lv_topi (fun x5 e6 => ?_)
    have e6 : x5 = nI ((d 0 k0) + (100 * (d 1 k0))) := e6.trans (nI_add _ _)
    subst e6
    refine lv_sipush (v := nI 10000) hx hb dSC_span_34 (by decide) ?_
    refine lv_aload_n hx hb dSC_span_37 rfl (lv_at hl 0 rfl) ?_
    refine va_get (D := (dC, dI)) (ci := 7) (v := .int (nI (d 2 k0))) (C := RCE) (T := TCE) (N := 10) hx hb hz in_CE hown hK hP (4 + k0) (zcs_get rfl (by omega)) rfl 2 (by decide) (hz _ wd_262) (fun _ h9 => h9) rfl dSC_span_38 ?_
    refine lv_imul hx hb dSC_span_41 ?_
    refine lv_topi (fun x7 e8 => ?_)
    have e8 : x7 = nI (10000 * (d 2 k0)) := e8.trans (pk_mul _ _)
    subst e8
    refine lv_iadd hx hb dSC_span_42 ?_
    refine lv_topi (fun x9 e10 => ?_)
    have e10 : x9 = nI (((d 0 k0) + (100 * (d 1 k0))) + (10000 * (d 2 k0))) := e10.trans (nI_add _ _)
    subst e10
    refine lv_ldc (v := 1000000) hx hb hown (hz _ wd_444) dSC_span_43 ?_
    refine lv_topi (fun x11 e12 => ?_)
    have e12 : x11 = nI 1000000 := e12.trans (by decide)
    subst e12
    refine lv_aload_n hx hb dSC_span_45 rfl (lv_at hl 0 rfl) ?_
    refine va_get (D := (dC, dI)) (ci := 7) (v := .int (nI (d 7 k0))) (C := RCE) (T := TCE) (N := 10) hx hb hz in_CE hown hK hP (4 + k0) (zcs_get rfl (by omega)) rfl 7 (by decide) (hz _ wd_273) (fun _ h9 => h9) rfl dSC_span_46 ?_
    refine lv_imul hx hb dSC_span_49 ?_
    refine lv_topi (fun x13 e14 => ?_)
    have e14 : x13 = nI (1000000 * (d 7 k0)) := e14.trans (pk_mul _ _)
    subst e14
    refine lv_iadd hx hb dSC_span_50 ?_
    refine lv_topi (fun x15 e16 => ?_)
    have e16 : x15 = nI ((((d 0 k0) + (100 * (d 1 k0))) + (10000 * (d 2 k0))) + (1000000 * (d 7 k0))) := e16.trans (nI_add _ _)
    subst e16
    subst hQ
    exact zp_iret hx hb hr hlocks (Or.inr ⟨k0, hk0, rfl, rfl⟩) dSC_span_51
  · have h_b := z_yF h_ra h_b
    refine lv_iconst (v := (-1)) hx hb dSC_span_11 (by decide) ?_
    subst hQ
    exact zp_iret hx hb hr hlocks (Or.inl ⟨h_b, rfl⟩) dSC_span_12

set_option maxHeartbeats 4000000 in
set_option maxRecDepth 100000 in
theorem f_SC_edge (l : Launch) (dC : Nat → ClassId) (dI : Nat → Nat → Nat) (h0 : Nat) (wd : Nat) (hh : Nat) (sp : Nat) (gp : Nat) (fx : Nat) (g : Nat) (gr : Nat) (gs : Nat) (bg : Nat) (re : Nat) (ce : Nat) (al : Nat) (ed : Nat) (cE : ClassId) (cap : Nat) (a : Nat → Option Nat) (mo : Int32) (n : Nat) (ad : Nat → Nat) (d : Nat → Nat → Nat) (x : Int32) (y : Int32) (f : Int32) (hn : n ≤ cap) (hc : cap < 2147483648) (ha : ∀ k, k < n → a k = some (ad k)) (hd : ∀ j k, k < n → d j k ≤ 1000) (hg : gr ≤ 1000 ∧ gs ≤ 1000 ∧ bg ≤ 1000 ∧ re ≤ 1000 ∧ ce ≤ 1000) : zp_M l ySC_edge wSC_edge ({ frames := 5, cells := 0, slots := 0, locals := 107 }) [.ref h0, .int x, .int y, .int f] (dC, dI) vwCl ([zob h0 0 [.ref g, .ref wd, .ref hh, .int (nI sp), .int (nI gp), .int (nI fx)], zob g 1 [.ref al, .int (nI gr), .int (nI gs), .int (nI bg), .int (nI re), .int (nI ce)], zob al 2 [.ref ed, .int (nI n), .int mo], zrf ed cE cap a] ++ zcs n ad (zcf d)) [(cE, .object "java/lang/Object")] zN (fun r => (¬ ((0 ≤ x.toInt ∧ x.toInt < ce) ∧ (0 ≤ y.toInt ∧ y.toInt < re)) ∧ r = -1) ∨ (((0 ≤ x.toInt ∧ x.toInt < ce) ∧ (0 ≤ y.toInt ∧ y.toInt < re)) ∧ ∃ c1 c2, zFst n (fun k => zTd d k x y) c1 ∧ zFst n (fun k => zTd d k (if f = 0 then x + nI 1 else x) (if f = 0 then y else y + nI 1)) c2 ∧ zDr n (d 8) (d 9) c1 c2 r)) := by
  refine zp_head (cc := cSC_edge) (maxL := 5) (ret := (some .int)) (by decide +kernel) rfl (Nat.le_of_ble_eq_true rfl) ?_
  intro p e s m below meth c ls F hP hK hX hl
  obtain ⟨hx, hb, hml, hr, hlocks, hown, hts⟩ := F
  have hown : s.vm.findClass "SpannedCells" = some m.cls := hown
  have hz : ∀ w9 ∈ zT, w9.before [.ref h0, .int x, .int y, .int f].toArray s = true := fun w9 h => hts w9 (List.mem_cons_of_mem _ h)
  have hl : lv_has ls 5 [(0, .ref h0), (1, .int x), (2, .int y), (3, .int f)] := hl
  have hN := hX
  refine z_q (fun Q hQ => ?_)
  refine lv_aload_n hx hb dSC_edge_0 rfl (lv_at hl 0 rfl) ?_
  refine va_get (D := (dC, dI)) (ci := 0) (v := .ref g) (C := RSC) (T := TSC) (N := 6) hx hb hz in_SC hown hK hP 0 rfl rfl 0 (by decide) (hz _ wd_150) (fun _ h9 => h9) rfl dSC_edge_1 ?_
  refine lv_iload_n hx hb dSC_edge_4 rfl (lv_at hl 1 rfl) ?_
  refine lv_iload_n hx hb dSC_edge_5 rfl (lv_at hl 2 rfl) ?_
  refine vp_callSi (W.runV (As := [.int x, .int y]) (rest := []) ⟨hx, hb, hml, hown, hz⟩ (f_GR_hasSlot l dC dI g gr gs bg re ce al ed cE cap a mo n ad d x y (by omega) (by omega) (ha) (hd) (hg)) (cwV 2 hz (z_gV wd_563 wd_564 wd_565 wd_30 wd_566) rfl rfl rfl (by decide +kernel) ⟨Nat.le_of_ble_eq_true rfl, Nat.le_of_ble_eq_true rfl⟩) (zr_preV hK (zt_sub hP [1, 2, 3] rfl) (va_recv (q0 := 1) hK hP (q := (RGR, TGR, 6)) rfl rfl) [0] rfl zN_blind (zN_call hN)) rfl rfl hl.1 rfl (lv_room (Nat.le_of_ble_eq_true rfl)) dSC_edge_6 ⟨Nat.le_of_ble_eq_true rfl, Nat.le_of_ble_eq_true rfl⟩) (fun ra h_ra => ?_)
  have h_ra : z_yn ra ((0 ≤ x.toInt ∧ x.toInt < ce) ∧ (0 ≤ y.toInt ∧ y.toInt < re)) := h_ra
  refine lv_if_ne (tgt := 14) hx hb dSC_edge_9 rfl (fun h_b => ?_) (fun h_b => ?_)
  · have h_b := z_yT h_ra h_b
    have h_a := h_b
    refine z_join (fun v : Int32 => zFst n (fun k => zTd d k (if f = 0 then x + nI 1 else x) (if f = 0 then y else y + nI 1)) v) (fun v => W p l e ({ frames := 5, cells := 0, slots := 0, locals := 107 }) s m [.ref h0, .int x, .int y, .int f].toArray below meth c s.heap [] 0 0 Q (F0 m 43 ls (.int v :: []))) (fun v hv => ?_) (fun J43 => ?_)
    · refine lv_istore hx hb dSC_edge_43 hl (Nat.le_of_ble_eq_true rfl) rfl (fun ls hl => ?_)
      have hl : lv_has ls 5 [(4, .int v), (0, .ref h0), (1, .int x), (2, .int y), (3, .int f)] := hl
      refine lv_aload_n hx hb dSC_edge_45 rfl (lv_at hl 1 rfl) ?_
      refine va_get (D := (dC, dI)) (ci := 0) (v := .ref g) (C := RSC) (T := TSC) (N := 6) hx hb hz in_SC hown hK hP 0 rfl rfl 0 (by decide) (hz _ wd_150) (fun _ h9 => h9) rfl dSC_edge_46 ?_
      refine lv_aload_n hx hb dSC_edge_49 rfl (lv_at hl 1 rfl) ?_
      refine va_get (D := (dC, dI)) (ci := 0) (v := .ref g) (C := RSC) (T := TSC) (N := 6) hx hb hz in_SC hown hK hP 0 rfl rfl 0 (by decide) (hz _ wd_150) (fun _ h9 => h9) rfl dSC_edge_50 ?_
      refine lv_iload_n hx hb dSC_edge_53 rfl (lv_at hl 2 rfl) ?_
      refine lv_iload_n hx hb dSC_edge_54 rfl (lv_at hl 3 rfl) ?_
      refine vp_callSi (W.runV (As := [.int x, .int y]) (rest := [.ref g]) ⟨hx, hb, hml, hown, hz⟩ (f_GR_ownerOf l dC dI g gr gs bg re ce al ed cE cap a mo n ad d x y (by omega) (by omega) (ha) (hd) (hg)) (cwV 2 hz (z_gV wd_407 wd_231 wd_232 wd_30 wd_233) rfl rfl rfl (by decide +kernel) ⟨Nat.le_of_ble_eq_true rfl, Nat.le_of_ble_eq_true rfl⟩) (zr_preV hK (zt_sub hP [1, 2, 3] rfl) (va_recv (q0 := 1) hK hP (q := (RGR, TGR, 6)) rfl rfl) [0] rfl z_true (fun _ _ _ => trivial)) rfl rfl hl.1 rfl (lv_room (Nat.le_of_ble_eq_true rfl)) dSC_edge_55 ⟨Nat.le_of_ble_eq_true rfl, Nat.le_of_ble_eq_true rfl⟩) (fun rc h_rc => ?_)
      have h_rc : zFst n (fun k => zTd d k x y) rc := h_rc
      refine lv_iload hx hb dSC_edge_58 (lv_at hl 0 rfl) ?_
      refine vp_callSi (W.runV (As := [.int rc, .int v]) (rest := []) ⟨hx, hb, hml, hown, hz⟩ (f_GR_drawnBetween l dC dI g gr gs bg re ce al ed cE cap a mo n ad d rc v (by omega) (by omega) (ha) (hd) (hg)) (cwV 2 hz (z_gV wd_568 wd_569 wd_570 wd_30 wd_571) rfl rfl rfl (by decide +kernel) ⟨Nat.le_of_ble_eq_true rfl, Nat.le_of_ble_eq_true rfl⟩) (zr_preV hK (zt_sub hP [1, 2, 3] rfl) (va_recv (q0 := 1) hK hP (q := (RGR, TGR, 6)) rfl rfl) [0] rfl z_true (fun _ _ _ => trivial)) rfl rfl hl.1 rfl (lv_room (Nat.le_of_ble_eq_true rfl)) dSC_edge_60 ⟨Nat.le_of_ble_eq_true rfl, Nat.le_of_ble_eq_true rfl⟩) (fun rd h_rd => ?_)
      have h_rd : zDr n (d 8) (d 9) rc v rd := h_rd
      subst hQ
      exact zp_iret hx hb hr hlocks (Or.inr ⟨h_a, rc, v, h_rc, hv, h_rd⟩) dSC_edge_63
    · refine lv_iload_n hx hb dSC_edge_14 rfl (lv_at hl 3 rfl) ?_
      refine lv_if_eq (tgt := 32) hx hb dSC_edge_15 rfl (fun h_f => ?_) (fun h_f => ?_)
      · refine lv_aload_n hx hb dSC_edge_32 rfl (lv_at hl 0 rfl) ?_
        refine va_get (D := (dC, dI)) (ci := 0) (v := .ref g) (C := RSC) (T := TSC) (N := 6) hx hb hz in_SC hown hK hP 0 rfl rfl 0 (by decide) (hz _ wd_150) (fun _ h9 => h9) rfl dSC_edge_33 ?_
        refine lv_iload_n hx hb dSC_edge_36 rfl (lv_at hl 1 rfl) ?_
        refine lv_iconst (v := nI 1) hx hb dSC_edge_37 (by decide) ?_
        refine lv_iadd hx hb dSC_edge_38 ?_
        refine lv_iload_n hx hb dSC_edge_39 rfl (lv_at hl 2 rfl) ?_
        refine vp_callSi (W.runV (As := [.int (x + (nI 1)), .int y]) (rest := []) ⟨hx, hb, hml, hown, hz⟩ (f_GR_ownerOf l dC dI g gr gs bg re ce al ed cE cap a mo n ad d (x + (nI 1)) y (by omega) (by omega) (ha) (hd) (hg)) (cwV 2 hz (z_gV wd_407 wd_231 wd_232 wd_30 wd_233) rfl rfl rfl (by decide +kernel) ⟨Nat.le_of_ble_eq_true rfl, Nat.le_of_ble_eq_true rfl⟩) (zr_preV hK (zt_sub hP [1, 2, 3] rfl) (va_recv (q0 := 1) hK hP (q := (RGR, TGR, 6)) rfl rfl) [0] rfl z_true (fun _ _ _ => trivial)) rfl rfl hl.1 rfl (lv_room (Nat.le_of_ble_eq_true rfl)) dSC_edge_40 ⟨Nat.le_of_ble_eq_true rfl, Nat.le_of_ble_eq_true rfl⟩) (fun r2 h_r2 => ?_)
        have h_r2 : zFst n (fun k => zTd d k (x + (nI 1)) y) r2 := h_r2
        exact J43 _ (by rw [if_pos h_f, if_pos h_f]; exact h_r2)
      · refine lv_aload_n hx hb dSC_edge_18 rfl (lv_at hl 0 rfl) ?_
        refine va_get (D := (dC, dI)) (ci := 0) (v := .ref g) (C := RSC) (T := TSC) (N := 6) hx hb hz in_SC hown hK hP 0 rfl rfl 0 (by decide) (hz _ wd_150) (fun _ h9 => h9) rfl dSC_edge_19 ?_
        refine lv_iload_n hx hb dSC_edge_22 rfl (lv_at hl 1 rfl) ?_
        refine lv_iload_n hx hb dSC_edge_23 rfl (lv_at hl 2 rfl) ?_
        refine lv_iconst (v := nI 1) hx hb dSC_edge_24 (by decide) ?_
        refine lv_iadd hx hb dSC_edge_25 ?_
        refine vp_callSi (W.runV (As := [.int x, .int (y + (nI 1))]) (rest := []) ⟨hx, hb, hml, hown, hz⟩ (f_GR_ownerOf l dC dI g gr gs bg re ce al ed cE cap a mo n ad d x (y + (nI 1)) (by omega) (by omega) (ha) (hd) (hg)) (cwV 2 hz (z_gV wd_407 wd_231 wd_232 wd_30 wd_233) rfl rfl rfl (by decide +kernel) ⟨Nat.le_of_ble_eq_true rfl, Nat.le_of_ble_eq_true rfl⟩) (zr_preV hK (zt_sub hP [1, 2, 3] rfl) (va_recv (q0 := 1) hK hP (q := (RGR, TGR, 6)) rfl rfl) [0] rfl z_true (fun _ _ _ => trivial)) rfl rfl hl.1 rfl (lv_room (Nat.le_of_ble_eq_true rfl)) dSC_edge_26 ⟨Nat.le_of_ble_eq_true rfl, Nat.le_of_ble_eq_true rfl⟩) (fun r3 h_r3 => ?_)
        have h_r3 : zFst n (fun k => zTd d k x (y + (nI 1))) r3 := h_r3
        refine lv_goto (tgt := 43) hx hb dSC_edge_29 rfl ?_
        exact J43 _ (by rw [if_neg h_f, if_neg h_f]; exact h_r3)
  · have h_b := z_yF h_ra h_b
    refine lv_iconst (v := (-1)) hx hb dSC_edge_12 (by decide) ?_
    subst hQ
    exact zp_iret hx hb hr hlocks (Or.inl ⟨h_b, rfl⟩) dSC_edge_13
