set_option maxHeartbeats 4000000 in
set_option maxRecDepth 100000 in
theorem x_SC_measuredHeights (l : Launch) (dC : Nat → ClassId) (dI : Nat → Nat → Nat) (h0 : Nat) (sp : Nat) (gp : Nat) (fx : Nat) (wd : Nat) (hh : Nat) (ln : Nat) (pn : Nat) (kn : ClassId) (gn : Nat → Int32) (g : Nat) (gr : Nat) (gs : Nat) (bg : Nat) (re : Nat) (ce : Nat) (al : Nat) (ed : Nat) (cE : ClassId) (cap : Nat) (a : Nat → Option Nat) (mo : Int32) (n : Nat) (ad : Nat → Nat) (d : Nat → Nat → Nat) (hn : n ≤ cap) (hc : cap < 2147483648) (ha : ∀ k, k < n → a k = some (ad k)) (hd : ∀ j k, k < n → d j k ≤ 1000) (hg : gr ≤ 1000 ∧ gs ≤ 1000 ∧ bg ≤ 1000 ∧ re ≤ 1000 ∧ ce ≤ 1000) (hL : ∀ k, k < n → d 0 k + d 2 k ≤ 12) (hB : ∀ k, k < n → d 1 k + d 7 k ≤ 12) (hRc : ∀ k, k < n → d 0 k + d 2 k ≤ ce) (h12 : ce ≤ 12 ∧ re ≤ 12) (hgp : gp ≤ 1000) (h71 : ∀ k, k < n → 1 ≤ d 7 k) : zw_Mr (S := (Nat → Nat)) l ySC_measuredHeights wSC_measuredHeights ({ frames := 5, cells := 0, slots := 0, locals := 110 }) [.ref h0] (dC, dI) vwCl ([zob h0 0 [.ref g, .ref wd, .ref hh, .int (nI sp), .int (nI gp), .int (nI fx)], zob hh 5 [.ref ln], zob ln 4 [.ref pn], zar pn kn 12 gn, zob g 1 [.ref al, .int (nI gr), .int (nI gs), .int (nI bg), .int (nI re), .int (nI ce)], zob al 2 [.ref ed, .int (nI n), .int mo], zrf ed cE cap a] ++ zcs n ad (zcf d)) [(kn, .int), (cE, .object "java/lang/Object")] (fun _ _ => True) (fun (gn2 : Nat → Nat) => gn2 = zHr (d 5) (d 1) (d 7) gp zO n 12) (fun (gn2 : Nat → Nat) => ([zob h0 0 [.ref g, .ref wd, .ref hh, .int (nI sp), .int (nI gp), .int (nI fx)], zob hh 5 [.ref ln], zob ln 4 [.ref pn], zar pn kn 12 (fun j => nI (gn2 j)), zob g 1 [.ref al, .int (nI gr), .int (nI gs), .int (nI bg), .int (nI re), .int (nI ce)], zob al 2 [.ref ed, .int (nI n), .int mo], zrf ed cE cap a] ++ zcs n ad (zcf d))) (fun (gn2 : Nat → Nat) => []) (fun (gn2 : Nat → Nat) => ln) 0 0 := by
  refine zw_headr (cc := cSC_measuredHeights) (maxL := 1) (ret := (some (.object "SpannedCells$Lines"))) (by decide +kernel) rfl (Nat.le_of_ble_eq_true rfl) ?_
  intro p e s m below meth c ls A F hA hP hK hD hS hX hl
  obtain ⟨hx, hb, hml, hr, hlocks, hown, hts⟩ := F
  have hown : s.vm.findClass "SpannedCells" = some m.cls := hown
  have hz : ∀ w9 ∈ zT, w9.before [.ref h0].toArray s = true := fun w9 h => hts w9 (List.mem_cons_of_mem _ h)
  have hl : lv_has ls 1 [(0, .ref h0)] := hl
  refine z_q (fun Q hQ => ?_)
  refine lv_aload_n hx hb dSC_measuredHeights_0 rfl (lv_at hl 0 rfl) ?_
  refine va_get (D := (dC, dI)) (ci := 0) (v := .ref hh) (C := RSC) (T := TSC) (N := 6) hx hb hz in_SC hown hK hP 0 rfl rfl 2 (by decide) (hz _ wd_152) (fun _ h9 => h9) rfl dSC_measuredHeights_1 ?_
  refine lv_aload_n hx hb dSC_measuredHeights_4 rfl (lv_at hl 0 rfl) ?_
  refine va_get (D := (dC, dI)) (ci := 0) (v := .ref g) (C := RSC) (T := TSC) (N := 6) hx hb hz in_SC hown hK hP 0 rfl rfl 0 (by decide) (hz _ wd_150) (fun _ h9 => h9) rfl dSC_measuredHeights_5 ?_
  refine lv_aload_n hx hb dSC_measuredHeights_8 rfl (lv_at hl 0 rfl) ?_
  refine va_get (D := (dC, dI)) (ci := 0) (v := .int (nI gp)) (C := RSC) (T := TSC) (N := 6) hx hb hz in_SC hown hK hP 0 rfl rfl 4 (by decide) (hz _ wd_154) (fun _ h9 => h9) rfl dSC_measuredHeights_9 ?_
  refine zw_callTv (wr := [zob h0 0 [.ref g, .ref wd, .ref hh, .int (nI sp), .int (nI gp), .int (nI fx)]]) hK hP hD hS hA [1, 2, 3, 4, 5, 6] [0] rfl rfl (by decide) (by decide) (va_runV (As := [.ref g, .int (nI gp)]) (rest := []) ⟨hx, hb, hml, hown, hz⟩ ((x_HE_measure l dC dI hh ln pn kn gn g gr gs bg re ce al ed cE cap a mo n ad d gp (by omega) (by omega) (ha) (hd) (hg) (hB) (hgp) (h71)) s.heap.size) (cwV 2 hz (z_gV wd_535 wd_536 wd_537 wd_36 wd_538) rfl rfl rfl (by decide +kernel) ⟨Nat.le_of_ble_eq_true rfl, Nat.le_of_ble_eq_true rfl⟩) (zw_preVT hK hP hD (va_recv (q0 := 1) hK hP (q := (RHE, THE, 1)) rfl rfl) [1, 2, 3, 4, 5, 6] (by decide) rfl [0, 1] rfl z_true (fun _ _ _ => trivial)) rfl rfl hl.1 rfl (lv_room (Nat.le_of_ble_eq_true rfl)) dSC_measuredHeights_12 ⟨Nat.le_of_ble_eq_true rfl, Nat.le_of_ble_eq_true rfl⟩) (fun u H locs h_rm hP hD hK hS => ?_)
  obtain ⟨f_2, rfl⟩ : ∃ z, z = u := ⟨_, rfl⟩
  have hP : va_P (dC, dI) vwCl ([zob h0 0 [.ref g, .ref wd, .ref hh, .int (nI sp), .int (nI gp), .int (nI fx)], zob hh 5 [.ref ln], zob ln 4 [.ref pn], zar pn kn 12 (fun j => nI (f_2 j)), zob g 1 [.ref al, .int (nI gr), .int (nI gs), .int (nI bg), .int (nI re), .int (nI ce)], zob al 2 [.ref ed, .int (nI n), .int mo], zrf ed cE cap a] ++ zcs n ad (zcf d)) H := zt_sub hP [0, 1, 2, 3, 4, 5, 6] rfl
  have hD : va_D A ([zob h0 0 [.ref g, .ref wd, .ref hh, .int (nI sp), .int (nI gp), .int (nI fx)], zob hh 5 [.ref ln], zob ln 4 [.ref pn], zar pn kn 12 (fun j => nI (f_2 j)), zob g 1 [.ref al, .int (nI gr), .int (nI gs), .int (nI bg), .int (nI re), .int (nI ce)], zob al 2 [.ref ed, .int (nI n), .int mo], zrf ed cE cap a] ++ zcs n ad (zcf d)) := zt_subD hD [0, 1, 2, 3, 4, 5, 6] (by decide) rfl
  have hK : va_K (dC, dI) vwCl [(kn, .int), (cE, .object "java/lang/Object")] s := hK
  have h_rm : f_2 = zHr (d 5) (d 1) (d 7) gp zO n 12 := h_rm
  refine lv_aload_n hx hb dSC_measuredHeights_15 rfl (lv_at hl 0 rfl) ?_
  refine va_get (D := (dC, dI)) (ci := 0) (v := .ref hh) (C := RSC) (T := TSC) (N := 6) hx hb hz in_SC hown hK hP 0 rfl rfl 2 (by decide) (hz _ wd_152) (fun _ h9 => h9) rfl dSC_measuredHeights_16 ?_
  refine va_get (D := (dC, dI)) (ci := 5) (v := .ref ln) (C := RHE) (T := THE) (N := 1) hx hb hz in_HE hown hK hP 1 rfl rfl 0 (by decide) (hz _ wd_146) (fun _ h9 => h9) rfl dSC_measuredHeights_19 ?_
  subst hQ
  exact zw_aret (D := (dC, dI)) (cl := vwCl) (A := A) f_2 hx hb hr (Or.inl ⟨_, rfl⟩) hlocks (rfl) (h_rm) (zt_sub hP [0, 1, 2, 3, 4, 5, 6] rfl) (hK.sub [] rfl) (zt_subD hD [0, 1, 2, 3, 4, 5, 6] (by decide) rfl) hS dSC_measuredHeights_22

set_option maxHeartbeats 4000000 in
set_option maxRecDepth 100000 in
theorem x_SC_high (l : Launch) (dC : Nat → ClassId) (dI : Nat → Nat → Nat) (h0 : Nat) (sp : Nat) (gp : Nat) (fx : Nat) (wd : Nat) (hh : Nat) (ln : Nat) (pn : Nat) (kn : ClassId) (gn : Nat → Int32) (g : Nat) (gr : Nat) (gs : Nat) (bg : Nat) (re : Nat) (ce : Nat) (al : Nat) (ed : Nat) (cE : ClassId) (cap : Nat) (a : Nat → Option Nat) (mo : Int32) (n : Nat) (ad : Nat → Nat) (d : Nat → Nat → Nat) (y : Int32) (hn : n ≤ cap) (hc : cap < 2147483648) (ha : ∀ k, k < n → a k = some (ad k)) (hd : ∀ j k, k < n → d j k ≤ 1000) (hg : gr ≤ 1000 ∧ gs ≤ 1000 ∧ bg ≤ 1000 ∧ re ≤ 1000 ∧ ce ≤ 1000) (hL : ∀ k, k < n → d 0 k + d 2 k ≤ 12) (hB : ∀ k, k < n → d 1 k + d 7 k ≤ 12) (hRc : ∀ k, k < n → d 0 k + d 2 k ≤ ce) (h12 : ce ≤ 12 ∧ re ≤ 12) (hgp : gp ≤ 1000) (h71 : ∀ k, k < n → 1 ≤ d 7 k) : zw_Mi (S := (Nat → Int32)) l ySC_high wSC_high ({ frames := 6, cells := 0, slots := 0, locals := 130 }) [.ref h0, .int y] (dC, dI) vwCl ([zob h0 0 [.ref g, .ref wd, .ref hh, .int (nI sp), .int (nI gp), .int (nI fx)], zob hh 5 [.ref ln], zob ln 4 [.ref pn], zar pn kn 12 gn, zob g 1 [.ref al, .int (nI gr), .int (nI gs), .int (nI bg), .int (nI re), .int (nI ce)], zob al 2 [.ref ed, .int (nI n), .int mo], zrf ed cE cap a] ++ zcs n ad (zcf d)) [(kn, .int), (cE, .object "java/lang/Object")] (fun _ _ => True) (fun r (gn2 : Nat → Int32) => (¬ (0 ≤ y.toInt ∧ y.toInt < re) ∧ r = -1) ∨ (∃ y0, y0 < re ∧ y = nI y0 ∧ r = nI (zHr (d 5) (d 1) (d 7) gp zO n 12 y0))) (fun (gn2 : Nat → Int32) => ([zob h0 0 [.ref g, .ref wd, .ref hh, .int (nI sp), .int (nI gp), .int (nI fx)], zob hh 5 [.ref ln], zob ln 4 [.ref pn], zar pn kn 12 gn2, zob g 1 [.ref al, .int (nI gr), .int (nI gs), .int (nI bg), .int (nI re), .int (nI ce)], zob al 2 [.ref ed, .int (nI n), .int mo], zrf ed cE cap a] ++ zcs n ad (zcf d))) (fun (gn2 : Nat → Int32) => []) 0 0 := by
  refine zw_headi (cc := cSC_high) (maxL := 2) (ret := (some .int)) (by decide +kernel) rfl (Nat.le_of_ble_eq_true rfl) ?_
  intro p e s m below meth c ls A F hA hP hK hD hS hX hl
  obtain ⟨hx, hb, hml, hr, hlocks, hown, hts⟩ := F
  have hown : s.vm.findClass "SpannedCells" = some m.cls := hown
  have hz : ∀ w9 ∈ zT, w9.before [.ref h0, .int y].toArray s = true := fun w9 h => hts w9 (List.mem_cons_of_mem _ h)
  have hl : lv_has ls 2 [(0, .ref h0), (1, .int y)] := hl
  refine z_q (fun Q hQ => ?_)
  refine lv_iload_n hx hb dSC_high_0 rfl (lv_at hl 1 rfl) ?_
  refine lv_iconst (v := nI 0) hx hb dSC_high_1 (by decide) ?_
  refine lv_aload_n hx hb dSC_high_2 rfl (lv_at hl 0 rfl) ?_
  refine va_get (D := (dC, dI)) (ci := 0) (v := .ref g) (C := RSC) (T := TSC) (N := 6) hx hb hz in_SC hown hK hP 0 rfl rfl 0 (by decide) (hz _ wd_150) (fun _ h9 => h9) rfl dSC_high_3 ?_
  refine vp_callSi (W.runV (As := []) (rest := [.int (nI 0), .int y]) ⟨hx, hb, hml, hown, hz⟩ (f_GR_rowCount l dC dI g gr gs bg re ce al ed cE cap a mo n ad d (by omega) (by omega) (ha) (hd) (hg)) (cwV 0 hz (z_gV wd_399 wd_400 wd_401 wd_30 wd_402) rfl rfl rfl (by decide +kernel) ⟨Nat.le_of_ble_eq_true rfl, Nat.le_of_ble_eq_true rfl⟩) (zr_preV hK (zt_sub hP [4, 5, 6] rfl) (va_recv (q0 := 4) hK hP (q := (RGR, TGR, 6)) rfl rfl) [1] rfl z_true (fun _ _ _ => trivial)) rfl rfl hl.1 rfl (lv_room (Nat.le_of_ble_eq_true rfl)) dSC_high_6 ⟨Nat.le_of_ble_eq_true rfl, Nat.le_of_ble_eq_true rfl⟩) (fun r1 h_r1 => ?_)
  have h_r1 : r1 = nI re := h_r1
  subst h_r1
  refine lv_iconst (v := nI 1) hx hb dSC_high_9 (by decide) ?_
  refine lv_isub hx hb dSC_high_10 ?_
  refine vp_callSi (W.runS (As := [.int y, .int (nI 0), .int ((nI re) - (nI 1))]) (rest := []) ⟨hx, hb, hml, hown, hz⟩ (f_SC_within l dC dI y (nI 0) ((nI re) - (nI 1)) ) (va_cwS 3 hz (z_gS wd_219 wd_220 wd_29 wd_221) rfl rfl rfl (by decide +kernel) ⟨Nat.le_of_ble_eq_true rfl, Nat.le_of_ble_eq_true rfl⟩) (zr_preS hK (hP.sub [] rfl) [] rfl z_true (fun _ _ _ => trivial)) rfl rfl hl.1 rfl (lv_room (Nat.le_of_ble_eq_true rfl)) dSC_high_11 ⟨Nat.le_of_ble_eq_true rfl, Nat.le_of_ble_eq_true rfl⟩) (fun ra h_ra => ?_)
  have h_ra : z_yn ra ((nI 0).toInt ≤ y.toInt ∧ y.toInt ≤ ((nI re) - (nI 1)).toInt) := h_ra
  have t_a := pk_sub_toInt (a := re) (b := 1) (by omega) (by omega)
  have t_0 := nI_toInt (n := 0) (by omega)
  refine lv_if_ne (tgt := 19) hx hb dSC_high_14 rfl (fun h_b => ?_) (fun h_b => ?_)
  · have h_b := z_yT h_ra h_b
    obtain ⟨y_v, hy_v, rfl⟩ := z_ofIn (c := y) (n := re) (by omega) (by omega) (by omega)
    refine lv_aload_n hx hb dSC_high_19 rfl (lv_at hl 0 rfl) ?_
    refine zw_callTr (wr := []) hK hP hD hS hA [0, 1, 2, 3, 4, 5, 6] [] rfl rfl (by decide) (by decide) (va_runV (As := []) (rest := []) ⟨hx, hb, hml, hown, hz⟩ ((x_SC_measuredHeights l dC dI h0 sp gp fx wd hh ln pn kn gn g gr gs bg re ce al ed cE cap a mo n ad d (by omega) (by omega) (ha) (hd) (hg) (hL) (hB) (hRc) (h12) (hgp) (h71)) s.heap.size) (cwV 0 hz (z_gV wd_531 wd_533 wd_12 wd_29 wd_534) rfl rfl rfl (by decide +kernel) ⟨Nat.le_of_ble_eq_true rfl, Nat.le_of_ble_eq_true rfl⟩) (zw_preVT hK hP hD (va_recv (q0 := 0) hK hP (q := (RSC, TSC, 6)) rfl rfl) [0, 1, 2, 3, 4, 5, 6] (by decide) rfl [0, 1] rfl z_true (fun _ _ _ => trivial)) rfl rfl hl.1 rfl (lv_room (Nat.le_of_ble_eq_true rfl)) dSC_high_20 ⟨Nat.le_of_ble_eq_true rfl, Nat.le_of_ble_eq_true rfl⟩) (fun u H locs h_rm hP hD hK hS => ?_)
    obtain ⟨f_2, rfl⟩ : ∃ z, z = u := ⟨_, rfl⟩
    have hP : va_P (dC, dI) vwCl ([zob h0 0 [.ref g, .ref wd, .ref hh, .int (nI sp), .int (nI gp), .int (nI fx)], zob hh 5 [.ref ln], zob ln 4 [.ref pn], zar pn kn 12 (fun j => nI (f_2 j)), zob g 1 [.ref al, .int (nI gr), .int (nI gs), .int (nI bg), .int (nI re), .int (nI ce)], zob al 2 [.ref ed, .int (nI n), .int mo], zrf ed cE cap a] ++ zcs n ad (zcf d)) H := zt_sub hP [0, 1, 2, 3, 4, 5, 6] rfl
    have hD : va_D A ([zob h0 0 [.ref g, .ref wd, .ref hh, .int (nI sp), .int (nI gp), .int (nI fx)], zob hh 5 [.ref ln], zob ln 4 [.ref pn], zar pn kn 12 (fun j => nI (f_2 j)), zob g 1 [.ref al, .int (nI gr), .int (nI gs), .int (nI bg), .int (nI re), .int (nI ce)], zob al 2 [.ref ed, .int (nI n), .int mo], zrf ed cE cap a] ++ zcs n ad (zcf d)) := zt_subD hD [0, 1, 2, 3, 4, 5, 6] (by decide) rfl
    have hK : va_K (dC, dI) vwCl [(kn, .int), (cE, .object "java/lang/Object")] s := hK
    refine W.eq (g2 := F0 m 23 ls [.ref ln]) rfl ?_
    have h_rm : f_2 = zHr (d 5) (d 1) (d 7) gp zO n 12 := h_rm
    refine lv_iload_n hx hb dSC_high_23 rfl (lv_at hl 1 rfl) ?_
    refine vp_callSi (W.runV (As := [.int (nI y_v)]) (rest := []) ⟨hx, hb, hml, hown, hz⟩ (x_LI_sizeOf l dC dI ln pn kn f_2 y_v (by omega)) (cwV 1 hz (z_gV wd_492 wd_493 wd_494 wd_35 wd_495) rfl rfl rfl (by decide +kernel) ⟨Nat.le_of_ble_eq_true rfl, Nat.le_of_ble_eq_true rfl⟩) (zr_preV hK (hP.sub [2, 3] rfl) (va_recv (q0 := 2) hK hP (q := (RLI, TLI, 1)) rfl rfl) [0] rfl z_true (fun _ _ _ => trivial)) rfl rfl hl.1 rfl (lv_room (Nat.le_of_ble_eq_true rfl)) dSC_high_24 ⟨Nat.le_of_ble_eq_true rfl, Nat.le_of_ble_eq_true rfl⟩) (fun r3 h_r3 => ?_)
    have h_r3 : r3 = nI (f_2 y_v) := h_r3
    subst h_r3
    subst hQ
    exact zw_iret (D := (dC, dI)) (cl := vwCl) (A := A) (fun j => nI (f_2 j)) hx hb hr hlocks (Or.inr ⟨y_v, hy_v, rfl, by rw [h_rm]⟩) (zt_sub hP [0, 1, 2, 3, 4, 5, 6] rfl) (hK.sub [] rfl) (zt_subD hD [0, 1, 2, 3, 4, 5, 6] (by decide) rfl) hS dSC_high_27
  · have h_b := z_yF h_ra h_b
    refine lv_iconst (v := (-1)) hx hb dSC_high_17 (by decide) ?_
    subst hQ
    exact zw_iret (D := (dC, dI)) (cl := vwCl) (A := A) gn hx hb hr hlocks (Or.inl ⟨by omega, rfl⟩) (zt_sub hP [0, 1, 2, 3, 4, 5, 6] rfl) (hK.sub [] rfl) (zt_subD hD [0, 1, 2, 3, 4, 5, 6] (by decide) rfl) hS dSC_high_18
