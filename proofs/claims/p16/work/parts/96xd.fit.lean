set_option maxHeartbeats 4000000 in
set_option maxRecDepth 100000 in
theorem x_WI_fit (l : Launch) (dC : Nat → ClassId) (dI : Nat → Nat → Nat) (wd : Nat) (l0 : Nat) (l1 : Nat) (l2 : Nat) (l3 : Nat) (p0 : Nat) (p1 : Nat) (p2 : Nat) (p3 : Nat) (kp0 : ClassId) (kp1 : ClassId) (kp2 : ClassId) (kp3 : ClassId) (L : Nat → Nat) (M : Nat → Nat) (g2 : Nat → Int32) (g3 : Nat → Int32) (n : Nat) (ad : Nat → Nat) (d : Nat → Nat → Nat) (k : Nat) (gp : Nat) (hk : k < n) (hd : ∀ j k, k < n → d j k ≤ 1000) (hL : ∀ k, k < n → d 0 k + d 2 k ≤ 12) (h21 : ∀ k, k < n → 1 ≤ d 2 k) (hLb : ∀ q, L q ≤ 20000) (hMb : ∀ q, M q ≤ 20000) (hgp : gp ≤ 1000) : zw_Mv (S := (Nat → Nat) × (Nat → Nat)) l yWI_fit wWI_fit ({ frames := 3, cells := 0, slots := 0, locals := 81 }) [.ref wd, .ref (ad k), .int (nI gp)] (dC, dI) vwCl ([zob wd 3 [.ref l0, .ref l1, .ref l2, .ref l3], zob l0 4 [.ref p0], zob l1 4 [.ref p1], zob l2 4 [.ref p2], zob l3 4 [.ref p3], zar p0 kp0 12 (fun j => nI (L j)), zar p1 kp1 12 (fun j => nI (M j)), zar p2 kp2 12 g2, zar p3 kp3 12 g3] ++ zcs n ad (zcf d)) [(kp0, .int), (kp1, .int), (kp2, .int), (kp3, .int)] (fun _ _ => True) (fun u => match u with | (L2, M2) => (L2, M2) = zFit (d 3 k) (d 4 k) gp (d 0 k) (d 2 k) (L, M)) (fun u => match u with | (L2, M2) => ([zob wd 3 [.ref l0, .ref l1, .ref l2, .ref l3], zob l0 4 [.ref p0], zob l1 4 [.ref p1], zob l2 4 [.ref p2], zob l3 4 [.ref p3], zar p0 kp0 12 (fun j => nI (L2 j)), zar p1 kp1 12 (fun j => nI (M2 j)), zar p2 kp2 12 g2, zar p3 kp3 12 g3] ++ zcs n ad (zcf d))) (fun u => match u with | (L2, M2) => []) 0 0 := by
  refine zw_headv (cc := cWI_fit) (maxL := 3) (ret := none) (by decide +kernel) rfl (Nat.le_of_ble_eq_true rfl) ?_
  intro p e s m below meth c ls A F hnm hA hP hK hD hS hX hl
  obtain ⟨hx, hb, hml, hr, hlocks, hown, hts⟩ := F
  have hown : s.vm.findClass "SpannedCells$Widths" = some m.cls := hown
  have hz : ∀ w9 ∈ zT, w9.before [.ref wd, .ref (ad k), .int (nI gp)].toArray s = true := fun w9 h => hts w9 (List.mem_cons_of_mem _ h)
  have hl : lv_has ls 3 [(0, .ref wd), (1, .ref (ad k)), (2, .int (nI gp))] := hl
  refine z_q (fun Q hQ => ?_)
  have hLk := hL k hk
  have h2k := h21 k hk
  have h3k := hd 3 k hk
  have h4k := hd 4 k hk
  refine lv_aload_n hx hb dWI_fit_0 rfl (lv_at hl 0 rfl) ?_
  refine va_get (D := (dC, dI)) (ci := 3) (v := .ref l0) (C := RWI) (T := TWI) (N := 4) hx hb hz in_WI hown hK hP 0 rfl rfl 0 (by decide) (hz _ wd_121) (fun _ h9 => h9) rfl dWI_fit_1 ?_
  refine lv_aload_n hx hb dWI_fit_4 rfl (lv_at hl 1 rfl) ?_
  refine va_get (D := (dC, dI)) (ci := 7) (v := .int (nI (d 3 k))) (C := RCE) (T := TCE) (N := 10) hx hb hz in_CE hown hK hP (9 + k) (zcs_get rfl (by omega)) rfl 3 (by decide) (hz _ wd_265) (fun _ h9 => h9) rfl dWI_fit_5 ?_
  refine lv_iload_n hx hb dWI_fit_8 rfl (lv_at hl 2 rfl) ?_
  refine lv_aload_n hx hb dWI_fit_9 rfl (lv_at hl 0 rfl) ?_
  refine va_get (D := (dC, dI)) (ci := 3) (v := .ref l1) (C := RWI) (T := TWI) (N := 4) hx hb hz in_WI hown hK hP 0 rfl rfl 1 (by decide) (hz _ wd_123) (fun _ h9 => h9) rfl dWI_fit_10 ?_
  refine lv_aload_n hx hb dWI_fit_13 rfl (lv_at hl 1 rfl) ?_
  refine va_get (D := (dC, dI)) (ci := 7) (v := .int (nI (d 0 k))) (C := RCE) (T := TCE) (N := 10) hx hb hz in_CE hown hK hP (9 + k) (zcs_get rfl (by omega)) rfl 0 (by decide) (hz _ wd_252) (fun _ h9 => h9) rfl dWI_fit_14 ?_
  refine lv_aload_n hx hb dWI_fit_17 rfl (lv_at hl 1 rfl) ?_
  refine vp_callSi (W.runV (As := []) (rest := [.int (nI (d 0 k)), .ref l1, .int (nI gp), .int (nI (d 3 k)), .ref l0]) ⟨hx, hb, hml, hown, hz⟩ (f_CE_right l dC dI (ad k) (d 0 k) (d 1 k) (d 2 k) (d 3 k) (d 4 k) (d 5 k) (d 6 k) (d 7 k) (d 8 k) (d 9 k) ) (cwV 0 hz (z_gV wd_470 wd_239 wd_240 wd_41 wd_241) rfl rfl rfl (by decide +kernel) ⟨Nat.le_of_ble_eq_true rfl, Nat.le_of_ble_eq_true rfl⟩) (zr_preV hK (zt_one hP (zcs_get rfl (by omega))) (va_recv hK hP (q := (RCE, TCE, 10)) rfl (zcs_get rfl (by omega))) [] rfl z_true (fun _ _ _ => trivial)) rfl rfl hl.1 rfl (lv_room (Nat.le_of_ble_eq_true rfl)) dWI_fit_18 ⟨Nat.le_of_ble_eq_true rfl, Nat.le_of_ble_eq_true rfl⟩) (fun r1 h_r1 => ?_)
  have h_r1 : r1 = nI ((d 0 k) + (d 2 k)) := h_r1
  subst h_r1
  refine zw_callTv (wr := [zob wd 3 [.ref l0, .ref l1, .ref l2, .ref l3], zob l2 4 [.ref p2], zob l3 4 [.ref p3], zar p2 kp2 12 g2, zar p3 kp3 12 g3]) hK hP hD hS hA [1, 5, 2, 6] [0, 3, 4, 7, 8] rfl rfl (by decide) (by decide) (va_runV (As := [.int (nI (d 3 k)), .int (nI gp), .ref l1, .int (nI (d 0 k)), .int (nI ((d 0 k) + (d 2 k)))]) (rest := []) ⟨hx, hb, hml, hown, hz⟩ ((x_LI_stretch l dC dI (zcs n ad (zcf d)) l0 p0 kp0 L l1 p1 kp1 (fun j => nI (M j)) M (d 3 k) gp (d 0 k) ((d 0 k) + (d 2 k)) (by omega) (by omega) (by omega) (hLb) (hMb) (fun _ _ _ => rfl) (by omega) (hgp)) s.heap.size) (cwV 5 hz (z_gV wd_471 wd_472 wd_473 wd_35 wd_474) rfl rfl rfl (by decide +kernel) ⟨Nat.le_of_ble_eq_true rfl, Nat.le_of_ble_eq_true rfl⟩) (zw_preVT hK hP hD (va_recv (q0 := 1) hK hP (q := (RLI, TLI, 1)) rfl rfl) [1, 5, 2, 6] (by decide) rfl [0, 1] rfl z_true (fun _ _ _ => trivial)) rfl rfl hl.1 rfl (lv_room (Nat.le_of_ble_eq_true rfl)) dWI_fit_21 ⟨Nat.le_of_ble_eq_true rfl, Nat.le_of_ble_eq_true rfl⟩) (fun u H locs h_r1 hP hD hK hS => ?_)
  obtain ⟨L_2, rfl⟩ : ∃ z, z = u := ⟨_, rfl⟩
  have hP : va_P (dC, dI) vwCl ([zob wd 3 [.ref l0, .ref l1, .ref l2, .ref l3], zob l0 4 [.ref p0], zob l1 4 [.ref p1], zob l2 4 [.ref p2], zob l3 4 [.ref p3], zar p0 kp0 12 (fun j => nI (L_2 j)), zar p1 kp1 12 (fun j => nI (M j)), zar p2 kp2 12 g2, zar p3 kp3 12 g3] ++ zcs n ad (zcf d)) H := zt_sub hP [0, 5, 7, 1, 2, 6, 8, 3, 4] rfl
  have hD : va_D A ([zob wd 3 [.ref l0, .ref l1, .ref l2, .ref l3], zob l0 4 [.ref p0], zob l1 4 [.ref p1], zob l2 4 [.ref p2], zob l3 4 [.ref p3], zar p0 kp0 12 (fun j => nI (L_2 j)), zar p1 kp1 12 (fun j => nI (M j)), zar p2 kp2 12 g2, zar p3 kp3 12 g3] ++ zcs n ad (zcf d)) := zt_subD hD [0, 5, 7, 1, 2, 6, 8, 3, 4] (by decide) rfl
  have hK : va_K (dC, dI) vwCl [(kp0, .int), (kp1, .int), (kp2, .int), (kp3, .int)] s := hK
  have h_r1 : L_2 = zStr L M (d 3 k) gp (d 0 k) ((d 0 k) + (d 2 k)) := h_r1
  refine lv_aload_n hx hb dWI_fit_24 rfl (lv_at hl 0 rfl) ?_
  refine va_get (D := (dC, dI)) (ci := 3) (v := .ref l1) (C := RWI) (T := TWI) (N := 4) hx hb hz in_WI hown hK hP 0 rfl rfl 1 (by decide) (hz _ wd_123) (fun _ h9 => h9) rfl dWI_fit_25 ?_
  refine lv_aload_n hx hb dWI_fit_28 rfl (lv_at hl 1 rfl) ?_
  refine va_get (D := (dC, dI)) (ci := 7) (v := .int (nI (d 4 k))) (C := RCE) (T := TCE) (N := 10) hx hb hz in_CE hown hK hP (9 + k) (zcs_get rfl (by omega)) rfl 4 (by decide) (hz _ wd_267) (fun _ h9 => h9) rfl dWI_fit_29 ?_
  refine lv_iload_n hx hb dWI_fit_32 rfl (lv_at hl 2 rfl) ?_
  refine lv_aload_n hx hb dWI_fit_33 rfl (lv_at hl 0 rfl) ?_
  refine va_get (D := (dC, dI)) (ci := 3) (v := .ref l1) (C := RWI) (T := TWI) (N := 4) hx hb hz in_WI hown hK hP 0 rfl rfl 1 (by decide) (hz _ wd_123) (fun _ h9 => h9) rfl dWI_fit_34 ?_
  refine lv_aload_n hx hb dWI_fit_37 rfl (lv_at hl 1 rfl) ?_
  refine va_get (D := (dC, dI)) (ci := 7) (v := .int (nI (d 0 k))) (C := RCE) (T := TCE) (N := 10) hx hb hz in_CE hown hK hP (9 + k) (zcs_get rfl (by omega)) rfl 0 (by decide) (hz _ wd_252) (fun _ h9 => h9) rfl dWI_fit_38 ?_
  refine lv_aload_n hx hb dWI_fit_41 rfl (lv_at hl 1 rfl) ?_
  refine vp_callSi (W.runV (As := []) (rest := [.int (nI (d 0 k)), .ref l1, .int (nI gp), .int (nI (d 4 k)), .ref l1]) ⟨hx, hb, hml, hown, hz⟩ (f_CE_right l dC dI (ad k) (d 0 k) (d 1 k) (d 2 k) (d 3 k) (d 4 k) (d 5 k) (d 6 k) (d 7 k) (d 8 k) (d 9 k) ) (cwV 0 hz (z_gV wd_470 wd_239 wd_240 wd_41 wd_241) rfl rfl rfl (by decide +kernel) ⟨Nat.le_of_ble_eq_true rfl, Nat.le_of_ble_eq_true rfl⟩) (zr_preV hK (zt_one hP (zcs_get rfl (by omega))) (va_recv hK hP (q := (RCE, TCE, 10)) rfl (zcs_get rfl (by omega))) [] rfl z_true (fun _ _ _ => trivial)) rfl rfl hl.1 rfl (lv_room (Nat.le_of_ble_eq_true rfl)) dWI_fit_42 ⟨Nat.le_of_ble_eq_true rfl, Nat.le_of_ble_eq_true rfl⟩) (fun r2 h_r2 => ?_)
  have h_r2 : r2 = nI ((d 0 k) + (d 2 k)) := h_r2
  subst h_r2
  refine zw_callTv (wr := [zob wd 3 [.ref l0, .ref l1, .ref l2, .ref l3], zob l0 4 [.ref p0], zob l2 4 [.ref p2], zob l3 4 [.ref p3], zar p0 kp0 12 (fun j => nI (L_2 j)), zar p2 kp2 12 g2, zar p3 kp3 12 g3]) hK hP hD hS hA [2, 6] [0, 1, 3, 4, 5, 7, 8] rfl rfl (by decide) (by decide) (va_runV (As := [.int (nI (d 4 k)), .int (nI gp), .ref l1, .int (nI (d 0 k)), .int (nI ((d 0 k) + (d 2 k)))]) (rest := []) ⟨hx, hb, hml, hown, hz⟩ ((x_LI_stretchA l dC dI (zcs n ad (zcf d)) l1 p1 kp1 M (d 4 k) gp (d 0 k) ((d 0 k) + (d 2 k)) (by omega) (by omega) (by omega) (hMb) (by omega) (hgp)) H.size) (cwV 5 hz (z_gV wd_471 wd_472 wd_473 wd_35 wd_474) rfl rfl rfl (by decide +kernel) ⟨Nat.le_of_ble_eq_true rfl, Nat.le_of_ble_eq_true rfl⟩) (zw_preVT hK hP hD (va_recv (q0 := 2) hK hP (q := (RLI, TLI, 1)) rfl rfl) [2, 6] (by decide) rfl [1] rfl z_true (fun _ _ _ => trivial)) rfl rfl hl.1 rfl (lv_room (Nat.le_of_ble_eq_true rfl)) dWI_fit_45 ⟨Nat.le_of_ble_eq_true rfl, Nat.le_of_ble_eq_true rfl⟩) (fun u H locs h_r2 hP hD hK hS => ?_)
  obtain ⟨M_2, rfl⟩ : ∃ z, z = u := ⟨_, rfl⟩
  have hP : va_P (dC, dI) vwCl ([zob wd 3 [.ref l0, .ref l1, .ref l2, .ref l3], zob l0 4 [.ref p0], zob l1 4 [.ref p1], zob l2 4 [.ref p2], zob l3 4 [.ref p3], zar p0 kp0 12 (fun j => nI (L_2 j)), zar p1 kp1 12 (fun j => nI (M_2 j)), zar p2 kp2 12 g2, zar p3 kp3 12 g3] ++ zcs n ad (zcf d)) H := zt_sub hP [0, 1, 7, 2, 3, 4, 8, 5, 6] rfl
  have hD : va_D A ([zob wd 3 [.ref l0, .ref l1, .ref l2, .ref l3], zob l0 4 [.ref p0], zob l1 4 [.ref p1], zob l2 4 [.ref p2], zob l3 4 [.ref p3], zar p0 kp0 12 (fun j => nI (L_2 j)), zar p1 kp1 12 (fun j => nI (M_2 j)), zar p2 kp2 12 g2, zar p3 kp3 12 g3] ++ zcs n ad (zcf d)) := zt_subD hD [0, 1, 7, 2, 3, 4, 8, 5, 6] (by decide) rfl
  have hK : va_K (dC, dI) vwCl [(kp0, .int), (kp1, .int), (kp2, .int), (kp3, .int)] s := hK
  have h_r2 : M_2 = zStr M M (d 4 k) gp (d 0 k) ((d 0 k) + (d 2 k)) := h_r2
  refine lv_aload_n hx hb dWI_fit_48 rfl (lv_at hl 0 rfl) ?_
  refine va_get (D := (dC, dI)) (ci := 3) (v := .ref l1) (C := RWI) (T := TWI) (N := 4) hx hb hz in_WI hown hK hP 0 rfl rfl 1 (by decide) (hz _ wd_123) (fun _ h9 => h9) rfl dWI_fit_49 ?_
  refine lv_aload_n hx hb dWI_fit_52 rfl (lv_at hl 0 rfl) ?_
  refine va_get (D := (dC, dI)) (ci := 3) (v := .ref l0) (C := RWI) (T := TWI) (N := 4) hx hb hz in_WI hown hK hP 0 rfl rfl 0 (by decide) (hz _ wd_121) (fun _ h9 => h9) rfl dWI_fit_53 ?_
  refine lv_aload_n hx hb dWI_fit_56 rfl (lv_at hl 1 rfl) ?_
  refine va_get (D := (dC, dI)) (ci := 7) (v := .int (nI (d 0 k))) (C := RCE) (T := TCE) (N := 10) hx hb hz in_CE hown hK hP (9 + k) (zcs_get rfl (by omega)) rfl 0 (by decide) (hz _ wd_252) (fun _ h9 => h9) rfl dWI_fit_57 ?_
  refine lv_aload_n hx hb dWI_fit_60 rfl (lv_at hl 1 rfl) ?_
  refine vp_callSi (W.runV (As := []) (rest := [.int (nI (d 0 k)), .ref l0, .ref l1]) ⟨hx, hb, hml, hown, hz⟩ (f_CE_right l dC dI (ad k) (d 0 k) (d 1 k) (d 2 k) (d 3 k) (d 4 k) (d 5 k) (d 6 k) (d 7 k) (d 8 k) (d 9 k) ) (cwV 0 hz (z_gV wd_470 wd_239 wd_240 wd_41 wd_241) rfl rfl rfl (by decide +kernel) ⟨Nat.le_of_ble_eq_true rfl, Nat.le_of_ble_eq_true rfl⟩) (zr_preV hK (zt_one hP (zcs_get rfl (by omega))) (va_recv hK hP (q := (RCE, TCE, 10)) rfl (zcs_get rfl (by omega))) [] rfl z_true (fun _ _ _ => trivial)) rfl rfl hl.1 rfl (lv_room (Nat.le_of_ble_eq_true rfl)) dWI_fit_61 ⟨Nat.le_of_ble_eq_true rfl, Nat.le_of_ble_eq_true rfl⟩) (fun r3 h_r3 => ?_)
  have h_r3 : r3 = nI ((d 0 k) + (d 2 k)) := h_r3
  subst h_r3
  refine zw_callTv (wr := [zob wd 3 [.ref l0, .ref l1, .ref l2, .ref l3], zob l2 4 [.ref p2], zob l3 4 [.ref p3], zar p2 kp2 12 g2, zar p3 kp3 12 g3]) hK hP hD hS hA [2, 6, 1, 5] [0, 3, 4, 7, 8] rfl rfl (by decide) (by decide) (va_runV (As := [.ref l0, .int (nI (d 0 k)), .int (nI ((d 0 k) + (d 2 k)))]) (rest := []) ⟨hx, hb, hml, hown, hz⟩ ((x_LI_raiseTo l dC dI (zcs n ad (zcf d)) l1 p1 kp1 M_2 l0 p0 kp0 L_2 (d 0 k) ((d 0 k) + (d 2 k)) (by omega) (by omega) (by rw [h_r2]; exact zStr_le (by omega) hMb (by omega)) (by rw [h_r1]; exact zStr_le (by omega) hLb (by omega))) H.size) (cwV 3 hz (z_gV wd_487 wd_488 wd_489 wd_35 wd_490) rfl rfl rfl (by decide +kernel) ⟨Nat.le_of_ble_eq_true rfl, Nat.le_of_ble_eq_true rfl⟩) (zw_preVT hK hP hD (va_recv (q0 := 2) hK hP (q := (RLI, TLI, 1)) rfl rfl) [2, 6, 1, 5] (by decide) rfl [1, 0] rfl z_true (fun _ _ _ => trivial)) rfl rfl hl.1 rfl (lv_room (Nat.le_of_ble_eq_true rfl)) dWI_fit_64 ⟨Nat.le_of_ble_eq_true rfl, Nat.le_of_ble_eq_true rfl⟩) (fun u H locs h_r3 hP hD hK hS => ?_)
  obtain ⟨M_3, rfl⟩ : ∃ z, z = u := ⟨_, rfl⟩
  have hP : va_P (dC, dI) vwCl ([zob wd 3 [.ref l0, .ref l1, .ref l2, .ref l3], zob l0 4 [.ref p0], zob l1 4 [.ref p1], zob l2 4 [.ref p2], zob l3 4 [.ref p3], zar p0 kp0 12 (fun j => nI (L_2 j)), zar p1 kp1 12 (fun j => nI (M_3 j)), zar p2 kp2 12 g2, zar p3 kp3 12 g3] ++ zcs n ad (zcf d)) H := zt_sub hP [0, 7, 5, 1, 2, 8, 6, 3, 4] rfl
  have hD : va_D A ([zob wd 3 [.ref l0, .ref l1, .ref l2, .ref l3], zob l0 4 [.ref p0], zob l1 4 [.ref p1], zob l2 4 [.ref p2], zob l3 4 [.ref p3], zar p0 kp0 12 (fun j => nI (L_2 j)), zar p1 kp1 12 (fun j => nI (M_3 j)), zar p2 kp2 12 g2, zar p3 kp3 12 g3] ++ zcs n ad (zcf d)) := zt_subD hD [0, 7, 5, 1, 2, 8, 6, 3, 4] (by decide) rfl
  have hK : va_K (dC, dI) vwCl [(kp0, .int), (kp1, .int), (kp2, .int), (kp3, .int)] s := hK
  have h_r3 : M_3 = zRz M_2 L_2 (d 0 k) ((d 0 k) + (d 2 k)) := h_r3
  subst hQ
  exact zw_vret (D := (dC, dI)) (cl := vwCl) (A := A) (L_2, M_3) hx hb hr hlocks (by rw [h_r3, h_r2, h_r1]; rfl) (zt_sub hP [0, 1, 2, 3, 4, 5, 6, 7, 8] rfl) (hK.sub [] rfl) (zt_subD hD [0, 1, 2, 3, 4, 5, 6, 7, 8] (by decide) rfl) hS dWI_fit_67
