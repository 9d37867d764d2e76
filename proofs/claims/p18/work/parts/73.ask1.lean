set_option maxHeartbeats 4000000 in
set_option maxRecDepth 100000 in
theorem f_SC_wide (l : Launch) (dC : Nat → ClassId) (dI : Nat → Nat → Nat) (h0 : Nat) (sp : Nat) (gp : Nat) (fx : Nat) (hh : Nat) (wd : Nat) (l0 : Nat) (l1 : Nat) (l2 : Nat) (l3 : Nat) (p0 : Nat) (p1 : Nat) (p2 : Nat) (p3 : Nat) (kp0 : ClassId) (kp1 : ClassId) (kp2 : ClassId) (kp3 : ClassId) (g0 : Nat → Int32) (g1 : Nat → Int32) (g2 : Nat → Int32) (g3 : Nat → Int32) (g : Nat) (gr : Nat) (gs : Nat) (bg : Nat) (re : Nat) (ce : Nat) (al : Nat) (ed : Nat) (cE : ClassId) (cap : Nat) (a : Nat → Option Nat) (mo : Int32) (n : Nat) (ad : Nat → Nat) (d : Nat → Nat → Nat) (x : Int32) (w : Int32) (hn : n ≤ cap) (hc : cap < 2147483648) (ha : ∀ k, k < n → a k = some (ad k)) (hd : ∀ j k, k < n → d j k ≤ 1000) (hg : gr ≤ 1000 ∧ gs ≤ 1000 ∧ bg ≤ 1000 ∧ re ≤ 1000 ∧ ce ≤ 1000) (hL : ∀ k, k < n → d 0 k + d 2 k ≤ 12) (hB : ∀ k, k < n → d 1 k + d 7 k ≤ 12) (hRc : ∀ k, k < n → d 0 k + d 2 k ≤ ce) (h12 : ce ≤ 12 ∧ re ≤ 12) : zw_Mi (S := (Nat → Int32) × (Nat → Int32) × (Nat → Int32) × (Nat → Int32)) l ySC_wide wSC_wide ({ frames := 6, cells := 0, slots := 0, locals := 148 }) [.ref h0, .int x, .int w] (dC, dI) vwCl ([zob h0 0 [.ref g, .ref wd, .ref hh, .int (nI sp), .int (nI gp), .int (nI fx)], zob wd 3 [.ref l0, .ref l1, .ref l2, .ref l3], zob l0 4 [.ref p0], zob l1 4 [.ref p1], zob l2 4 [.ref p2], zob l3 4 [.ref p3], zar p0 kp0 12 g0, zar p1 kp1 12 g1, zar p2 kp2 12 g2, zar p3 kp3 12 g3, zob g 1 [.ref al, .int (nI gr), .int (nI gs), .int (nI bg), .int (nI re), .int (nI ce)], zob al 2 [.ref ed, .int (nI n), .int mo], zrf ed cE cap a] ++ zcs n ad (zcf d)) [(kp0, .int), (kp1, .int), (kp2, .int), (kp3, .int), (cE, .object "java/lang/Object")] (fun _ _ => True) (fun r u => match u with | (u0, u1, u2, u3) => True) (fun u => match u with | (u0, u1, u2, u3) => ([zob h0 0 [.ref g, .ref wd, .ref hh, .int (nI sp), .int (nI gp), .int (nI fx)], zob wd 3 [.ref l0, .ref l1, .ref l2, .ref l3], zob l0 4 [.ref p0], zob l1 4 [.ref p1], zob l2 4 [.ref p2], zob l3 4 [.ref p3], zar p0 kp0 12 u0, zar p1 kp1 12 u1, zar p2 kp2 12 u2, zar p3 kp3 12 u3, zob g 1 [.ref al, .int (nI gr), .int (nI gs), .int (nI bg), .int (nI re), .int (nI ce)], zob al 2 [.ref ed, .int (nI n), .int mo], zrf ed cE cap a] ++ zcs n ad (zcf d))) (fun u => match u with | (u0, u1, u2, u3) => []) 0 0 := by
  refine zw_headi (cc := cSC_wide) (maxL := 3) (ret := (some .int)) (by decide +kernel) rfl (Nat.le_of_ble_eq_true rfl) ?_
  intro p e s m below meth c ls A F hA hP hK hD hS hX hl
  obtain ⟨hx, hb, hml, hr, hlocks, hown, hts⟩ := F
  have hown : s.vm.findClass "SpannedCells" = some m.cls := hown
  have hz : ∀ w9 ∈ zT, w9.before [.ref h0, .int x, .int w].toArray s = true := fun w9 h => hts w9 (List.mem_cons_of_mem _ h)
  have hl : lv_has ls 3 [(0, .ref h0), (1, .int x), (2, .int w)] := hl
  refine z_q (fun Q hQ => ?_)
  refine lv_iload_n hx hb dSC_wide_0 rfl (lv_at hl 1 rfl) ?_
  refine lv_iconst (v := nI 0) hx hb dSC_wide_1 (by decide) ?_
  refine lv_aload_n hx hb dSC_wide_2 rfl (lv_at hl 0 rfl) ?_
  refine va_get (D := (dC, dI)) (ci := 0) (v := .ref g) (C := RSC) (T := TSC) (N := 6) hx hb hz in_SC hown hK hP 0 rfl rfl 0 (by decide) (hz _ wd_150) (fun _ h9 => h9) rfl dSC_wide_3 ?_
  refine vp_callSi (W.runV (As := []) (rest := [.int (nI 0), .int x]) ⟨hx, hb, hml, hown, hz⟩ (f_GR_columnCount l dC dI g gr gs bg re ce al ed cE cap a mo n ad d (by omega) (by omega) (ha) (hd) (hg)) (cwV 0 hz (z_gV wd_391 wd_392 wd_393 wd_30 wd_394) rfl rfl rfl (by decide +kernel) ⟨Nat.le_of_ble_eq_true rfl, Nat.le_of_ble_eq_true rfl⟩) (zr_preV hK (zt_sub hP [10, 11, 12] rfl) (va_recv (q0 := 10) hK hP (q := (RGR, TGR, 6)) rfl rfl) [4] rfl z_true (fun _ _ _ => trivial)) rfl rfl hl.1 rfl (lv_room (Nat.le_of_ble_eq_true rfl)) dSC_wide_6 ⟨Nat.le_of_ble_eq_true rfl, Nat.le_of_ble_eq_true rfl⟩) (fun r1 h_r1 => ?_)
  have h_r1 : r1 = nI ce := h_r1
  subst h_r1
  refine lv_iconst (v := nI 1) hx hb dSC_wide_9 (by decide) ?_
  refine lv_isub hx hb dSC_wide_10 ?_
  refine lv_topi (fun x2 e3 => ?_)
  have e3 : x2 = nI ce - nI 1 := e3.trans (rfl)
  subst e3
  refine vp_callSi (W.runS (As := [.int x, .int (nI 0), .int (nI ce - nI 1)]) (rest := []) ⟨hx, hb, hml, hown, hz⟩ (f_SC_within l dC dI x (nI 0) (nI ce - nI 1) ) (va_cwS 3 hz (z_gS wd_219 wd_220 wd_29 wd_221) rfl rfl rfl (by decide +kernel) ⟨Nat.le_of_ble_eq_true rfl, Nat.le_of_ble_eq_true rfl⟩) (zr_preS hK (hP.sub [] rfl) [] rfl z_true (fun _ _ _ => trivial)) rfl rfl hl.1 rfl (lv_room (Nat.le_of_ble_eq_true rfl)) dSC_wide_11 ⟨Nat.le_of_ble_eq_true rfl, Nat.le_of_ble_eq_true rfl⟩) (fun ra h_ra => ?_)
  have h_ra : z_yn ra ((nI 0).toInt ≤ x.toInt ∧ x.toInt ≤ (nI ce - nI 1).toInt) := h_ra
  have t_a := pk_sub_toInt (a := ce) (b := 1) (by omega) (by omega)
  have t_0 := nI_toInt (n := 0) (by omega)
  refine lv_if_ne (tgt := 19) hx hb dSC_wide_14 rfl (fun h_b => ?_) (fun h_b => ?_)
  · have h_b := z_yT h_ra h_b
    obtain ⟨x_v, hx_v, rfl⟩ := z_ofIn (c := x) (n := ce) (by omega) (by omega) (by omega)
    refine lv_iload_n hx hb dSC_wide_19 rfl (lv_at hl 2 rfl) ?_
    refine lv_if_ne (tgt := 35) hx hb dSC_wide_20 rfl (fun h5 => ?_) (fun h5 => ?_)
    · refine lv_iload_n hx hb dSC_wide_35 rfl (lv_at hl 2 rfl) ?_
      refine lv_iconst (v := nI 1) hx hb dSC_wide_36 (by decide) ?_
      refine lv_icmp_ne (tgt := 52) hx hb dSC_wide_37 rfl (fun h6 => ?_) (fun h6 => ?_)
      · refine lv_aload_n hx hb dSC_wide_52 rfl (lv_at hl 0 rfl) ?_
        refine zw_callTr (wr := []) hK hP hD hS hA [0, 1, 2, 3, 4, 5, 6, 7, 8, 9, 10, 11, 12] [] rfl rfl (by decide) (by decide) (va_runV (As := []) (rest := []) ⟨hx, hb, hml, hown, hz⟩ ((f_SC_chosenWidths l dC dI h0 sp gp fx hh wd l0 l1 l2 l3 p0 p1 p2 p3 kp0 kp1 kp2 kp3 g0 g1 g2 g3 g gr gs bg re ce al ed cE cap a mo n ad d (by omega) (by omega) (ha) (hd) (hg) (hL) (hB) (hRc) (h12)) s.heap.size) (cwV 0 hz (z_gV wd_496 wd_498 wd_10 wd_29 wd_499) rfl rfl rfl (by decide +kernel) ⟨Nat.le_of_ble_eq_true rfl, Nat.le_of_ble_eq_true rfl⟩) (zw_preVT hK hP hD (va_recv (q0 := 0) hK hP (q := (RSC, TSC, 6)) rfl rfl) [0, 1, 2, 3, 4, 5, 6, 7, 8, 9, 10, 11, 12] (by decide) rfl [0, 1, 2, 3, 4] rfl z_true (fun _ _ _ => trivial)) rfl rfl hl.1 rfl (lv_room (Nat.le_of_ble_eq_true rfl)) dSC_wide_53 ⟨Nat.le_of_ble_eq_true rfl, Nat.le_of_ble_eq_true rfl⟩) (fun u H locs h_r11 hP hD hK hS => ?_)
        obtain ⟨u_7, u_8, u_9, u_10⟩ := u
        have hP : va_P (dC, dI) vwCl ([zob h0 0 [.ref g, .ref wd, .ref hh, .int (nI sp), .int (nI gp), .int (nI fx)], zob wd 3 [.ref l0, .ref l1, .ref l2, .ref l3], zob l0 4 [.ref p0], zob l1 4 [.ref p1], zob l2 4 [.ref p2], zob l3 4 [.ref p3], zar p0 kp0 12 u_7, zar p1 kp1 12 u_8, zar p2 kp2 12 u_9, zar p3 kp3 12 u_10, zob g 1 [.ref al, .int (nI gr), .int (nI gs), .int (nI bg), .int (nI re), .int (nI ce)], zob al 2 [.ref ed, .int (nI n), .int mo], zrf ed cE cap a] ++ zcs n ad (zcf d)) H := zt_sub hP [0, 1, 2, 3, 4, 5, 6, 7, 8, 9, 10, 11, 12] rfl
        have hD : va_D A ([zob h0 0 [.ref g, .ref wd, .ref hh, .int (nI sp), .int (nI gp), .int (nI fx)], zob wd 3 [.ref l0, .ref l1, .ref l2, .ref l3], zob l0 4 [.ref p0], zob l1 4 [.ref p1], zob l2 4 [.ref p2], zob l3 4 [.ref p3], zar p0 kp0 12 u_7, zar p1 kp1 12 u_8, zar p2 kp2 12 u_9, zar p3 kp3 12 u_10, zob g 1 [.ref al, .int (nI gr), .int (nI gs), .int (nI bg), .int (nI re), .int (nI ce)], zob al 2 [.ref ed, .int (nI n), .int mo], zrf ed cE cap a] ++ zcs n ad (zcf d)) := zt_subD hD [0, 1, 2, 3, 4, 5, 6, 7, 8, 9, 10, 11, 12] (by decide) rfl
        have hK : va_K (dC, dI) vwCl [(kp0, .int), (kp1, .int), (kp2, .int), (kp3, .int), (cE, .object "java/lang/Object")] s := hK
        refine W.eq (g2 := F0 m 56 ls [.ref l2]) rfl ?_
        refine lv_iload_n hx hb dSC_wide_56 rfl (lv_at hl 1 rfl) ?_
        refine vp_callSi (W.runV (As := [.int (nI x_v)]) (rest := []) ⟨hx, hb, hml, hown, hz⟩ (f_LI_sizeOf l dC dI l2 p2 kp2 u_9 x_v (by omega)) (cwV 1 hz (z_gV wd_492 wd_493 wd_494 wd_35 wd_495) rfl rfl rfl (by decide +kernel) ⟨Nat.le_of_ble_eq_true rfl, Nat.le_of_ble_eq_true rfl⟩) (zr_preV hK (hP.sub [4, 8] rfl) (va_recv (q0 := 4) hK hP (q := (RLI, TLI, 1)) rfl rfl) [2] rfl z_true (fun _ _ _ => trivial)) rfl rfl hl.1 rfl (lv_room (Nat.le_of_ble_eq_true rfl)) dSC_wide_57 ⟨Nat.le_of_ble_eq_true rfl, Nat.le_of_ble_eq_true rfl⟩) (fun r12 h_r12 => ?_)
        subst hQ
        exact zw_iret (D := (dC, dI)) (cl := vwCl) (A := A) (u_7, u_8, u_9, u_10) hx hb hr hlocks (trivial) (zt_sub hP [0, 1, 2, 3, 4, 5, 6, 7, 8, 9, 10, 11, 12] rfl) (hK.sub [] rfl) (zt_subD hD [0, 1, 2, 3, 4, 5, 6, 7, 8, 9, 10, 11, 12] (by decide) rfl) hS dSC_wide_60
      · refine lv_aload_n hx hb dSC_wide_40 rfl (lv_at hl 0 rfl) ?_
        refine zw_callTr (wr := []) hK hP hD hS hA [0, 1, 2, 3, 4, 5, 6, 7, 8, 9, 10, 11, 12] [] rfl rfl (by decide) (by decide) (va_runV (As := []) (rest := []) ⟨hx, hb, hml, hown, hz⟩ ((f_SC_measuredWidths l dC dI h0 sp gp fx hh wd l0 l1 l2 l3 p0 p1 p2 p3 kp0 kp1 kp2 kp3 g0 g1 g2 g3 g gr gs bg re ce al ed cE cap a mo n ad d (by omega) (by omega) (ha) (hd) (hg) (hL) (hB) (hRc) (h12)) s.heap.size) (cwV 0 hz (z_gV wd_449 wd_451 wd_8 wd_29 wd_452) rfl rfl rfl (by decide +kernel) ⟨Nat.le_of_ble_eq_true rfl, Nat.le_of_ble_eq_true rfl⟩) (zw_preVT hK hP hD (va_recv (q0 := 0) hK hP (q := (RSC, TSC, 6)) rfl rfl) [0, 1, 2, 3, 4, 5, 6, 7, 8, 9, 10, 11, 12] (by decide) rfl [0, 1, 2, 3, 4] rfl z_true (fun _ _ _ => trivial)) rfl rfl hl.1 rfl (lv_room (Nat.le_of_ble_eq_true rfl)) dSC_wide_41 ⟨Nat.le_of_ble_eq_true rfl, Nat.le_of_ble_eq_true rfl⟩) (fun u H locs h_r17 hP hD hK hS => ?_)
        obtain ⟨u_13, u_14, u_15, u_16⟩ := u
        have hP : va_P (dC, dI) vwCl ([zob h0 0 [.ref g, .ref wd, .ref hh, .int (nI sp), .int (nI gp), .int (nI fx)], zob wd 3 [.ref l0, .ref l1, .ref l2, .ref l3], zob l0 4 [.ref p0], zob l1 4 [.ref p1], zob l2 4 [.ref p2], zob l3 4 [.ref p3], zar p0 kp0 12 u_13, zar p1 kp1 12 u_14, zar p2 kp2 12 u_15, zar p3 kp3 12 u_16, zob g 1 [.ref al, .int (nI gr), .int (nI gs), .int (nI bg), .int (nI re), .int (nI ce)], zob al 2 [.ref ed, .int (nI n), .int mo], zrf ed cE cap a] ++ zcs n ad (zcf d)) H := zt_sub hP [0, 1, 2, 3, 4, 5, 6, 7, 8, 9, 10, 11, 12] rfl
        have hD : va_D A ([zob h0 0 [.ref g, .ref wd, .ref hh, .int (nI sp), .int (nI gp), .int (nI fx)], zob wd 3 [.ref l0, .ref l1, .ref l2, .ref l3], zob l0 4 [.ref p0], zob l1 4 [.ref p1], zob l2 4 [.ref p2], zob l3 4 [.ref p3], zar p0 kp0 12 u_13, zar p1 kp1 12 u_14, zar p2 kp2 12 u_15, zar p3 kp3 12 u_16, zob g 1 [.ref al, .int (nI gr), .int (nI gs), .int (nI bg), .int (nI re), .int (nI ce)], zob al 2 [.ref ed, .int (nI n), .int mo], zrf ed cE cap a] ++ zcs n ad (zcf d)) := zt_subD hD [0, 1, 2, 3, 4, 5, 6, 7, 8, 9, 10, 11, 12] (by decide) rfl
        have hK : va_K (dC, dI) vwCl [(kp0, .int), (kp1, .int), (kp2, .int), (kp3, .int), (cE, .object "java/lang/Object")] s := hK
        refine W.eq (g2 := F0 m 44 ls [.ref wd]) rfl ?_
        refine va_get (D := (dC, dI)) (ci := 3) (v := .ref l1) (C := RWI) (T := TWI) (N := 4) hx hb hz in_WI hown hK hP 1 rfl rfl 1 (by decide) (hz _ wd_124) (fun _ h9 => h9) rfl dSC_wide_44 ?_
        refine lv_iload_n hx hb dSC_wide_47 rfl (lv_at hl 1 rfl) ?_
        refine vp_callSi (W.runV (As := [.int (nI x_v)]) (rest := []) ⟨hx, hb, hml, hown, hz⟩ (f_LI_sizeOf l dC dI l1 p1 kp1 u_14 x_v (by omega)) (cwV 1 hz (z_gV wd_492 wd_493 wd_494 wd_35 wd_495) rfl rfl rfl (by decide +kernel) ⟨Nat.le_of_ble_eq_true rfl, Nat.le_of_ble_eq_true rfl⟩) (zr_preV hK (hP.sub [3, 7] rfl) (va_recv (q0 := 3) hK hP (q := (RLI, TLI, 1)) rfl rfl) [1] rfl z_true (fun _ _ _ => trivial)) rfl rfl hl.1 rfl (lv_room (Nat.le_of_ble_eq_true rfl)) dSC_wide_48 ⟨Nat.le_of_ble_eq_true rfl, Nat.le_of_ble_eq_true rfl⟩) (fun r18 h_r18 => ?_)
        subst hQ
        exact zw_iret (D := (dC, dI)) (cl := vwCl) (A := A) (u_13, u_14, u_15, u_16) hx hb hr hlocks (trivial) (zt_sub hP [0, 1, 2, 3, 4, 5, 6, 7, 8, 9, 10, 11, 12] rfl) (hK.sub [] rfl) (zt_subD hD [0, 1, 2, 3, 4, 5, 6, 7, 8, 9, 10, 11, 12] (by decide) rfl) hS dSC_wide_51
    · refine lv_aload_n hx hb dSC_wide_23 rfl (lv_at hl 0 rfl) ?_
      refine zw_callTr (wr := []) hK hP hD hS hA [0, 1, 2, 3, 4, 5, 6, 7, 8, 9, 10, 11, 12] [] rfl rfl (by decide) (by decide) (va_runV (As := []) (rest := []) ⟨hx, hb, hml, hown, hz⟩ ((f_SC_measuredWidths l dC dI h0 sp gp fx hh wd l0 l1 l2 l3 p0 p1 p2 p3 kp0 kp1 kp2 kp3 g0 g1 g2 g3 g gr gs bg re ce al ed cE cap a mo n ad d (by omega) (by omega) (ha) (hd) (hg) (hL) (hB) (hRc) (h12)) s.heap.size) (cwV 0 hz (z_gV wd_449 wd_451 wd_8 wd_29 wd_452) rfl rfl rfl (by decide +kernel) ⟨Nat.le_of_ble_eq_true rfl, Nat.le_of_ble_eq_true rfl⟩) (zw_preVT hK hP hD (va_recv (q0 := 0) hK hP (q := (RSC, TSC, 6)) rfl rfl) [0, 1, 2, 3, 4, 5, 6, 7, 8, 9, 10, 11, 12] (by decide) rfl [0, 1, 2, 3, 4] rfl z_true (fun _ _ _ => trivial)) rfl rfl hl.1 rfl (lv_room (Nat.le_of_ble_eq_true rfl)) dSC_wide_24 ⟨Nat.le_of_ble_eq_true rfl, Nat.le_of_ble_eq_true rfl⟩) (fun u H locs h_r23 hP hD hK hS => ?_)
      obtain ⟨u_19, u_20, u_21, u_22⟩ := u
      have hP : va_P (dC, dI) vwCl ([zob h0 0 [.ref g, .ref wd, .ref hh, .int (nI sp), .int (nI gp), .int (nI fx)], zob wd 3 [.ref l0, .ref l1, .ref l2, .ref l3], zob l0 4 [.ref p0], zob l1 4 [.ref p1], zob l2 4 [.ref p2], zob l3 4 [.ref p3], zar p0 kp0 12 u_19, zar p1 kp1 12 u_20, zar p2 kp2 12 u_21, zar p3 kp3 12 u_22, zob g 1 [.ref al, .int (nI gr), .int (nI gs), .int (nI bg), .int (nI re), .int (nI ce)], zob al 2 [.ref ed, .int (nI n), .int mo], zrf ed cE cap a] ++ zcs n ad (zcf d)) H := zt_sub hP [0, 1, 2, 3, 4, 5, 6, 7, 8, 9, 10, 11, 12] rfl
      have hD : va_D A ([zob h0 0 [.ref g, .ref wd, .ref hh, .int (nI sp), .int (nI gp), .int (nI fx)], zob wd 3 [.ref l0, .ref l1, .ref l2, .ref l3], zob l0 4 [.ref p0], zob l1 4 [.ref p1], zob l2 4 [.ref p2], zob l3 4 [.ref p3], zar p0 kp0 12 u_19, zar p1 kp1 12 u_20, zar p2 kp2 12 u_21, zar p3 kp3 12 u_22, zob g 1 [.ref al, .int (nI gr), .int (nI gs), .int (nI bg), .int (nI re), .int (nI ce)], zob al 2 [.ref ed, .int (nI n), .int mo], zrf ed cE cap a] ++ zcs n ad (zcf d)) := zt_subD hD [0, 1, 2, 3, 4, 5, 6, 7, 8, 9, 10, 11, 12] (by decide) rfl
      have hK : va_K (dC, dI) vwCl [(kp0, .int), (kp1, .int), (kp2, .int), (kp3, .int), (cE, .object "java/lang/Object")] s := hK
      refine W.eq (g2 := F0 m 27 ls [.ref wd]) rfl ?_
      refine va_get (D := (dC, dI)) (ci := 3) (v := .ref l0) (C := RWI) (T := TWI) (N := 4) hx hb hz in_WI hown hK hP 1 rfl rfl 0 (by decide) (hz _ wd_122) (fun _ h9 => h9) rfl dSC_wide_27 ?_
      refine lv_iload_n hx hb dSC_wide_30 rfl (lv_at hl 1 rfl) ?_
      refine vp_callSi (W.runV (As := [.int (nI x_v)]) (rest := []) ⟨hx, hb, hml, hown, hz⟩ (f_LI_sizeOf l dC dI l0 p0 kp0 u_19 x_v (by omega)) (cwV 1 hz (z_gV wd_492 wd_493 wd_494 wd_35 wd_495) rfl rfl rfl (by decide +kernel) ⟨Nat.le_of_ble_eq_true rfl, Nat.le_of_ble_eq_true rfl⟩) (zr_preV hK (hP.sub [2, 6] rfl) (va_recv (q0 := 2) hK hP (q := (RLI, TLI, 1)) rfl rfl) [0] rfl z_true (fun _ _ _ => trivial)) rfl rfl hl.1 rfl (lv_room (Nat.le_of_ble_eq_true rfl)) dSC_wide_31 ⟨Nat.le_of_ble_eq_true rfl, Nat.le_of_ble_eq_true rfl⟩) (fun r24 h_r24 => ?_)
      subst hQ
      exact zw_iret (D := (dC, dI)) (cl := vwCl) (A := A) (u_19, u_20, u_21, u_22) hx hb hr hlocks (trivial) (zt_sub hP [0, 1, 2, 3, 4, 5, 6, 7, 8, 9, 10, 11, 12] rfl) (hK.sub [] rfl) (zt_subD hD [0, 1, 2, 3, 4, 5, 6, 7, 8, 9, 10, 11, 12] (by decide) rfl) hS dSC_wide_34
  · have h_b := z_yF h_ra h_b
    refine lv_iconst (v := (-1)) hx hb dSC_wide_17 (by decide) ?_
    subst hQ
    exact zw_iret (D := (dC, dI)) (cl := vwCl) (A := A) (g0, g1, g2, g3) hx hb hr hlocks (trivial) (zt_sub hP [0, 1, 2, 3, 4, 5, 6, 7, 8, 9, 10, 11, 12] rfl) (hK.sub [] rfl) (zt_subD hD [0, 1, 2, 3, 4, 5, 6, 7, 8, 9, 10, 11, 12] (by decide) rfl) hS dSC_wide_18

set_option maxHeartbeats 4000000 in
set_option maxRecDepth 100000 in
theorem f_SC_high (l : Launch) (dC : Nat → ClassId) (dI : Nat → Nat → Nat) (h0 : Nat) (sp : Nat) (gp : Nat) (fx : Nat) (wd : Nat) (hh : Nat) (ln : Nat) (pn : Nat) (kn : ClassId) (gn : Nat → Int32) (g : Nat) (gr : Nat) (gs : Nat) (bg : Nat) (re : Nat) (ce : Nat) (al : Nat) (ed : Nat) (cE : ClassId) (cap : Nat) (a : Nat → Option Nat) (mo : Int32) (n : Nat) (ad : Nat → Nat) (d : Nat → Nat → Nat) (y : Int32) (hn : n ≤ cap) (hc : cap < 2147483648) (ha : ∀ k, k < n → a k = some (ad k)) (hd : ∀ j k, k < n → d j k ≤ 1000) (hg : gr ≤ 1000 ∧ gs ≤ 1000 ∧ bg ≤ 1000 ∧ re ≤ 1000 ∧ ce ≤ 1000) (hL : ∀ k, k < n → d 0 k + d 2 k ≤ 12) (hB : ∀ k, k < n → d 1 k + d 7 k ≤ 12) (hRc : ∀ k, k < n → d 0 k + d 2 k ≤ ce) (h12 : ce ≤ 12 ∧ re ≤ 12) : zw_Mi (S := (Nat → Int32)) l ySC_high wSC_high ({ frames := 6, cells := 0, slots := 0, locals := 130 }) [.ref h0, .int y] (dC, dI) vwCl ([zob h0 0 [.ref g, .ref wd, .ref hh, .int (nI sp), .int (nI gp), .int (nI fx)], zob hh 5 [.ref ln], zob ln 4 [.ref pn], zar pn kn 12 gn, zob g 1 [.ref al, .int (nI gr), .int (nI gs), .int (nI bg), .int (nI re), .int (nI ce)], zob al 2 [.ref ed, .int (nI n), .int mo], zrf ed cE cap a] ++ zcs n ad (zcf d)) [(kn, .int), (cE, .object "java/lang/Object")] (fun _ _ => True) (fun r (gn2 : Nat → Int32) => True) (fun (gn2 : Nat → Int32) => ([zob h0 0 [.ref g, .ref wd, .ref hh, .int (nI sp), .int (nI gp), .int (nI fx)], zob hh 5 [.ref ln], zob ln 4 [.ref pn], zar pn kn 12 gn2, zob g 1 [.ref al, .int (nI gr), .int (nI gs), .int (nI bg), .int (nI re), .int (nI ce)], zob al 2 [.ref ed, .int (nI n), .int mo], zrf ed cE cap a] ++ zcs n ad (zcf d))) (fun (gn2 : Nat → Int32) => []) 0 0 := by
  refine zw_headi (cc := cSC_high) (maxL := 2) (ret := (some .int)) (by decide +kernel) rfl (Nat.le_of_ble_eq_true rfl) ?_
  intro p e s m below meth c ls A F hA hP hK hD hS hX hl
  obtain ⟨hx, hb, hml, hr, hlocks, hown, hts⟩ := F
  have hown : s.vm.findClass "SpannedCells" = some m.cls := hown
  have hz : ∀ w9 ∈ zT, w9.before [.ref h0, .int y].toArray s = true := fun w9 h => hts w9 (List.mem_cons_of_mem _ h)
  have hl : lv_has ls 2 [(0, .ref h0), (1, .int y)] := hl
  refine z_q (fun Q hQ => ?_)
  refine lv_iload_n hx hb dSC_high_0 rfl (lv_at hl 1 rfl) ?_
  refine lv_iconst (v := nI 0) hx hb dSC_high_1 (by decide) ?_
  refine lv_aload_n hx hb dSC_high_2 rfl (lv_at hl 0 rfl) ?_
  refine va_get (D := (dC, dI)) (ci := 0) (v := .ref g) (C := RSC) (T := TSC) (N := 6) hx hb hz in_SC hown hK hP 0 rfl rfl 0 (by decide) (hz _ wd_150) (fun _ h9 => h9) rfl dSC_high_3 ?_
  refine vp_callSi (W.runV (As := []) (rest := [.int (nI 0), .int y]) ⟨hx, hb, hml, hown, hz⟩ (f_GR_rowCount l dC dI g gr gs bg re ce al ed cE cap a mo n ad d (by omega) (by omega) (ha) (hd) (hg)) (cwV 0 hz (z_gV wd_399 wd_400 wd_401 wd_30 wd_402) rfl rfl rfl (by decide +kernel) ⟨Nat.le_of_ble_eq_true rfl, Nat.le_of_ble_eq_true rfl⟩) (zr_preV hK (zt_sub hP [4, 5, 6] rfl) (va_recv (q0 := 4) hK hP (q := (RGR, TGR, 6)) rfl rfl) [1] rfl z_true (fun _ _ _ => trivial)) rfl rfl hl.1 rfl (lv_room (Nat.le_of_ble_eq_true rfl)) dSC_high_6 ⟨Nat.le_of_ble_eq_true rfl, Nat.le_of_ble_eq_true rfl⟩) (fun r1 h_r1 => ?_)
  have h_r1 : r1 = nI re := h_r1
  subst h_r1
  refine lv_iconst (v := nI 1) hx hb dSC_high_9 (by decide) ?_
  refine lv_isub hx hb dSC_high_10 ?_
  refine lv_topi (fun x2 e3 => ?_)
  have e3 : x2 = nI re - nI 1 := e3.trans (rfl)
  subst e3
  refine vp_callSi (W.runS (As := [.int y, .int (nI 0), .int (nI re - nI 1)]) (rest := []) ⟨hx, hb, hml, hown, hz⟩ (f_SC_within l dC dI y (nI 0) (nI re - nI 1) ) (va_cwS 3 hz (z_gS wd_219 wd_220 wd_29 wd_221) rfl rfl rfl (by decide +kernel) ⟨Nat.le_of_ble_eq_true rfl, Nat.le_of_ble_eq_true rfl⟩) (zr_preS hK (hP.sub [] rfl) [] rfl z_true (fun _ _ _ => trivial)) rfl rfl hl.1 rfl (lv_room (Nat.le_of_ble_eq_true rfl)) dSC_high_11 ⟨Nat.le_of_ble_eq_true rfl, Nat.le_of_ble_eq_true rfl⟩) (fun ra h_ra => ?_)
  have h_ra : z_yn ra ((nI 0).toInt ≤ y.toInt ∧ y.toInt ≤ (nI re - nI 1).toInt) := h_ra
  have t_a := pk_sub_toInt (a := re) (b := 1) (by omega) (by omega)
  have t_0 := nI_toInt (n := 0) (by omega)
  refine lv_if_ne (tgt := 19) hx hb dSC_high_14 rfl (fun h_b => ?_) (fun h_b => ?_)
  · have h_b := z_yT h_ra h_b
    obtain ⟨y_v, hy_v, rfl⟩ := z_ofIn (c := y) (n := re) (by omega) (by omega) (by omega)
    refine lv_aload_n hx hb dSC_high_19 rfl (lv_at hl 0 rfl) ?_
    refine zw_callTr (wr := []) hK hP hD hS hA [0, 1, 2, 3, 4, 5, 6] [] rfl rfl (by decide) (by decide) (va_runV (As := []) (rest := []) ⟨hx, hb, hml, hown, hz⟩ ((f_SC_measuredHeights l dC dI h0 sp gp fx wd hh ln pn kn gn g gr gs bg re ce al ed cE cap a mo n ad d (by omega) (by omega) (ha) (hd) (hg) (hL) (hB) (hRc) (h12)) s.heap.size) (cwV 0 hz (z_gV wd_531 wd_533 wd_12 wd_29 wd_534) rfl rfl rfl (by decide +kernel) ⟨Nat.le_of_ble_eq_true rfl, Nat.le_of_ble_eq_true rfl⟩) (zw_preVT hK hP hD (va_recv (q0 := 0) hK hP (q := (RSC, TSC, 6)) rfl rfl) [0, 1, 2, 3, 4, 5, 6] (by decide) rfl [0, 1] rfl z_true (fun _ _ _ => trivial)) rfl rfl hl.1 rfl (lv_room (Nat.le_of_ble_eq_true rfl)) dSC_high_20 ⟨Nat.le_of_ble_eq_true rfl, Nat.le_of_ble_eq_true rfl⟩) (fun u H locs h_r6 hP hD hK hS => ?_)
    obtain ⟨gn_5, rfl⟩ : ∃ z, z = u := ⟨_, rfl⟩
    have hP : va_P (dC, dI) vwCl ([zob h0 0 [.ref g, .ref wd, .ref hh, .int (nI sp), .int (nI gp), .int (nI fx)], zob hh 5 [.ref ln], zob ln 4 [.ref pn], zar pn kn 12 gn_5, zob g 1 [.ref al, .int (nI gr), .int (nI gs), .int (nI bg), .int (nI re), .int (nI ce)], zob al 2 [.ref ed, .int (nI n), .int mo], zrf ed cE cap a] ++ zcs n ad (zcf d)) H := zt_sub hP [0, 1, 2, 3, 4, 5, 6] rfl
    have hD : va_D A ([zob h0 0 [.ref g, .ref wd, .ref hh, .int (nI sp), .int (nI gp), .int (nI fx)], zob hh 5 [.ref ln], zob ln 4 [.ref pn], zar pn kn 12 gn_5, zob g 1 [.ref al, .int (nI gr), .int (nI gs), .int (nI bg), .int (nI re), .int (nI ce)], zob al 2 [.ref ed, .int (nI n), .int mo], zrf ed cE cap a] ++ zcs n ad (zcf d)) := zt_subD hD [0, 1, 2, 3, 4, 5, 6] (by decide) rfl
    have hK : va_K (dC, dI) vwCl [(kn, .int), (cE, .object "java/lang/Object")] s := hK
    refine W.eq (g2 := F0 m 23 ls [.ref ln]) rfl ?_
    refine lv_iload_n hx hb dSC_high_23 rfl (lv_at hl 1 rfl) ?_
    refine vp_callSi (W.runV (As := [.int (nI y_v)]) (rest := []) ⟨hx, hb, hml, hown, hz⟩ (f_LI_sizeOf l dC dI ln pn kn gn_5 y_v (by omega)) (cwV 1 hz (z_gV wd_492 wd_493 wd_494 wd_35 wd_495) rfl rfl rfl (by decide +kernel) ⟨Nat.le_of_ble_eq_true rfl, Nat.le_of_ble_eq_true rfl⟩) (zr_preV hK (hP.sub [2, 3] rfl) (va_recv (q0 := 2) hK hP (q := (RLI, TLI, 1)) rfl rfl) [0] rfl z_true (fun _ _ _ => trivial)) rfl rfl hl.1 rfl (lv_room (Nat.le_of_ble_eq_true rfl)) dSC_high_24 ⟨Nat.le_of_ble_eq_true rfl, Nat.le_of_ble_eq_true rfl⟩) (fun r7 h_r7 => ?_)
    subst hQ
    exact zw_iret (D := (dC, dI)) (cl := vwCl) (A := A) gn_5 hx hb hr hlocks (trivial) (zt_sub hP [0, 1, 2, 3, 4, 5, 6] rfl) (hK.sub [] rfl) (zt_subD hD [0, 1, 2, 3, 4, 5, 6] (by decide) rfl) hS dSC_high_27
  · have h_b := z_yF h_ra h_b
    refine lv_iconst (v := (-1)) hx hb dSC_high_17 (by decide) ?_
    subst hQ
    exact zw_iret (D := (dC, dI)) (cl := vwCl) (A := A) gn hx hb hr hlocks (trivial) (zt_sub hP [0, 1, 2, 3, 4, 5, 6] rfl) (hK.sub [] rfl) (zt_subD hD [0, 1, 2, 3, 4, 5, 6] (by decide) rfl) hS dSC_high_18
