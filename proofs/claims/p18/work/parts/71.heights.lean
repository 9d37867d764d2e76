set_option maxHeartbeats 4000000 in
set_option maxRecDepth 100000 in
theorem f_HE_measure (l : Launch) (dC : Nat → ClassId) (dI : Nat → Nat → Nat) (hh : Nat) (ln : Nat) (pn : Nat) (kn : ClassId) (gn : Nat → Int32) (g : Nat) (gr : Nat) (gs : Nat) (bg : Nat) (re : Nat) (ce : Nat) (al : Nat) (ed : Nat) (cE : ClassId) (cap : Nat) (a : Nat → Option Nat) (mo : Int32) (n : Nat) (ad : Nat → Nat) (d : Nat → Nat → Nat) (gp : Nat) (hn : n ≤ cap) (hc : cap < 2147483648) (ha : ∀ k, k < n → a k = some (ad k)) (hd : ∀ j k, k < n → d j k ≤ 1000) (hg : gr ≤ 1000 ∧ gs ≤ 1000 ∧ bg ≤ 1000 ∧ re ≤ 1000 ∧ ce ≤ 1000) (hB : ∀ k, k < n → d 1 k + d 7 k ≤ 12) : zw_Mv (S := (Nat → Int32)) l yHE_measure wHE_measure ({ frames := 4, cells := 0, slots := 0, locals := 85 }) [.ref hh, .ref g, .int (nI gp)] (dC, dI) vwCl ([zob hh 5 [.ref ln], zob ln 4 [.ref pn], zar pn kn 12 gn, zob g 1 [.ref al, .int (nI gr), .int (nI gs), .int (nI bg), .int (nI re), .int (nI ce)], zob al 2 [.ref ed, .int (nI n), .int mo], zrf ed cE cap a] ++ zcs n ad (zcf d)) [(kn, .int), (cE, .object "java/lang/Object")] (fun _ _ => True) (fun (gn2 : Nat → Int32) => True) (fun (gn2 : Nat → Int32) => ([zob hh 5 [.ref ln], zob ln 4 [.ref pn], zar pn kn 12 gn2, zob g 1 [.ref al, .int (nI gr), .int (nI gs), .int (nI bg), .int (nI re), .int (nI ce)], zob al 2 [.ref ed, .int (nI n), .int mo], zrf ed cE cap a] ++ zcs n ad (zcf d))) (fun (gn2 : Nat → Int32) => []) 0 0 := by
  refine zw_headv (cc := cHE_measure) (maxL := 6) (ret := none) (by decide +kernel) rfl (Nat.le_of_ble_eq_true rfl) ?_
  intro p e s m below meth c ls A F hnm hA hP hK hD hS hX hl
  obtain ⟨hx, hb, hml, hr, hlocks, hown, hts⟩ := F
  have hown : s.vm.findClass "SpannedCells$Heights" = some m.cls := hown
  have hz : ∀ w9 ∈ zT, w9.before [.ref hh, .ref g, .int (nI gp)].toArray s = true := fun w9 h => hts w9 (List.mem_cons_of_mem _ h)
  have hl : lv_has ls 6 [(0, .ref hh), (1, .ref g), (2, .int (nI gp))] := hl
  refine z_q (fun Q hQ => ?_)
  refine lv_aload_n hx hb dHE_measure_0 rfl (lv_at hl 0 rfl) ?_
  refine va_get (D := (dC, dI)) (ci := 5) (v := .ref ln) (C := RHE) (T := THE) (N := 1) hx hb hz in_HE hown hK hP 0 rfl rfl 0 (by decide) (hz _ wd_145) (fun _ h9 => h9) rfl dHE_measure_1 ?_
  refine zw_callTv (wr := [zob hh 5 [.ref ln], zob g 1 [.ref al, .int (nI gr), .int (nI gs), .int (nI bg), .int (nI re), .int (nI ce)], zob al 2 [.ref ed, .int (nI n), .int mo], zrf ed cE cap a]) hK hP hD hS hA [1, 2] [0, 3, 4, 5] rfl rfl (by decide) (by decide) (va_runV (As := []) (rest := []) ⟨hx, hb, hml, hown, hz⟩ ((f_LI_reset l dC dI (zcs n ad (zcf d)) ln pn kn gn ) s.heap.size) (cwV 0 hz (z_gV wd_539 wd_458 wd_459 wd_35 wd_460) rfl rfl rfl (by decide +kernel) ⟨Nat.le_of_ble_eq_true rfl, Nat.le_of_ble_eq_true rfl⟩) (zw_preVT hK hP hD (va_recv (q0 := 1) hK hP (q := (RLI, TLI, 1)) rfl rfl) [1, 2] (by decide) rfl [0] rfl z_true (fun _ _ _ => trivial)) rfl rfl hl.1 rfl (lv_room (Nat.le_of_ble_eq_true rfl)) dHE_measure_4 ⟨Nat.le_of_ble_eq_true rfl, Nat.le_of_ble_eq_true rfl⟩) (fun u H locs h_r2 hP hD hK hS => ?_)
  obtain ⟨f_1, rfl⟩ : ∃ z, z = u := ⟨_, rfl⟩
  have hP : va_P (dC, dI) vwCl ([zob hh 5 [.ref ln], zob ln 4 [.ref pn], zar pn kn 12 f_1, zob g 1 [.ref al, .int (nI gr), .int (nI gs), .int (nI bg), .int (nI re), .int (nI ce)], zob al 2 [.ref ed, .int (nI n), .int mo], zrf ed cE cap a] ++ zcs n ad (zcf d)) H := zt_sub hP [0, 4, 5, 1, 2, 3] rfl
  have hD : va_D A ([zob hh 5 [.ref ln], zob ln 4 [.ref pn], zar pn kn 12 f_1, zob g 1 [.ref al, .int (nI gr), .int (nI gs), .int (nI bg), .int (nI re), .int (nI ce)], zob al 2 [.ref ed, .int (nI n), .int mo], zrf ed cE cap a] ++ zcs n ad (zcf d)) := zt_subD hD [0, 4, 5, 1, 2, 3] (by decide) rfl
  have hK : va_K (dC, dI) vwCl [(kn, .int), (cE, .object "java/lang/Object")] s := hK
  refine lv_iconst (v := nI 1) hx hb dHE_measure_7 (by decide) ?_
  refine lv_istore_n hx hb dHE_measure_8 rfl hl (Nat.le_of_ble_eq_true rfl) rfl (fun ls hl => ?_)
  have hl : lv_has ls 6 [(3, .int (nI 1)), (0, .ref hh), (1, .ref g), (2, .int (nI gp))] := hl
  refine zl_upW (σ := (Nat → Int32)) 13 (fun i b_ ls H locs => lv_has ls 6 [(3, .int (nI i)), (2, .int (nI gp)), (1, .ref g), (0, .ref hh)] ∧ va_P (dC, dI) vwCl ([zob hh 5 [.ref ln], zob ln 4 [.ref pn], zar pn kn 12 b_, zob g 1 [.ref al, .int (nI gr), .int (nI gs), .int (nI bg), .int (nI re), .int (nI ce)], zob al 2 [.ref ed, .int (nI n), .int mo], zrf ed cE cap a] ++ zcs n ad (zcf d)) H ∧ va_D A ([zob hh 5 [.ref ln], zob ln 4 [.ref pn], zar pn kn 12 b_, zob g 1 [.ref al, .int (nI gr), .int (nI gs), .int (nI bg), .int (nI re), .int (nI ce)], zob al 2 [.ref ed, .int (nI n), .int mo], zrf ed cE cap a] ++ zcs n ad (zcf d)) ∧ va_S A s.heap H locs) ?_ ?_ 1 (by decide) f_1 ls H locs ⟨lv_sub hl [0, 3, 2, 1] rfl, hP, hD, hS⟩
  · intro x9 ls H locs hI
    obtain ⟨b_, rfl⟩ : ∃ z, z = x9 := ⟨_, rfl⟩
    obtain ⟨hl, hP, hD, hS⟩ := hI
    have hl : lv_has ls 6 [(3, .int (nI 13)), (2, .int (nI gp)), (1, .ref g), (0, .ref hh)] := hl
    have hP : va_P (dC, dI) vwCl ([zob hh 5 [.ref ln], zob ln 4 [.ref pn], zar pn kn 12 b_, zob g 1 [.ref al, .int (nI gr), .int (nI gs), .int (nI bg), .int (nI re), .int (nI ce)], zob al 2 [.ref ed, .int (nI n), .int mo], zrf ed cE cap a] ++ zcs n ad (zcf d)) H := hP
    have hD : va_D A ([zob hh 5 [.ref ln], zob ln 4 [.ref pn], zar pn kn 12 b_, zob g 1 [.ref al, .int (nI gr), .int (nI gs), .int (nI bg), .int (nI re), .int (nI ce)], zob al 2 [.ref ed, .int (nI n), .int mo], zrf ed cE cap a] ++ zcs n ad (zcf d)) := hD
    refine lv_iload_n hx hb dHE_measure_9 rfl (lv_at hl 0 rfl) ?_
    refine lv_bipush (v := nI 12) hx hb dHE_measure_10 (by decide) ?_
    refine lv_icmp_gt (tgt := 83) hx hb dHE_measure_12 rfl (fun _ => ?_) (fun h => absurd (by decide) h)
    subst hQ
    exact zw_vret (D := (dC, dI)) (cl := vwCl) (A := A) b_ hx hb hr hlocks (trivial) (zt_sub hP [0, 1, 2, 3, 4, 5] rfl) (hK.sub [] rfl) (zt_subD hD [0, 1, 2, 3, 4, 5] (by decide) rfl) hS dHE_measure_83
  · intro i hi ih
    intro x9 ls H locs hI
    obtain ⟨b_, rfl⟩ : ∃ z, z = x9 := ⟨_, rfl⟩
    obtain ⟨hl, hP, hD, hS⟩ := hI
    have hl : lv_has ls 6 [(3, .int (nI i)), (2, .int (nI gp)), (1, .ref g), (0, .ref hh)] := hl
    have hP : va_P (dC, dI) vwCl ([zob hh 5 [.ref ln], zob ln 4 [.ref pn], zar pn kn 12 b_, zob g 1 [.ref al, .int (nI gr), .int (nI gs), .int (nI bg), .int (nI re), .int (nI ce)], zob al 2 [.ref ed, .int (nI n), .int mo], zrf ed cE cap a] ++ zcs n ad (zcf d)) H := hP
    have hD : va_D A ([zob hh 5 [.ref ln], zob ln 4 [.ref pn], zar pn kn 12 b_, zob g 1 [.ref al, .int (nI gr), .int (nI gs), .int (nI bg), .int (nI re), .int (nI ce)], zob al 2 [.ref ed, .int (nI n), .int mo], zrf ed cE cap a] ++ zcs n ad (zcf d)) := hD
    refine lv_iload_n hx hb dHE_measure_9 rfl (lv_at hl 0 rfl) ?_
    refine lv_bipush (v := nI 12) hx hb dHE_measure_10 (by decide) ?_
    have t3 := nI_toInt (n := i) (by omega)
    have t4 := nI_toInt (n := 12) (by omega)
    refine lv_icmp_gt (tgt := 83) hx hb dHE_measure_12 rfl (fun h => by have h := z_lt h; omega) (fun _ => ?_)
    refine lv_iconst (v := nI 0) hx hb dHE_measure_15 (by decide) ?_
    refine lv_istore hx hb dHE_measure_16 hl (Nat.le_of_ble_eq_true rfl) rfl (fun ls hl => ?_)
    have hl : lv_has ls 6 [(4, .int (nI 0)), (3, .int (nI i)), (2, .int (nI gp)), (1, .ref g), (0, .ref hh)] := hl
    refine zl_upW (σ := (Nat → Int32)) n (fun j c_ ls H locs => lv_has ls 6 [(4, .int (nI j)), (3, .int (nI i)), (2, .int (nI gp)), (1, .ref g), (0, .ref hh)] ∧ va_P (dC, dI) vwCl ([zob hh 5 [.ref ln], zob ln 4 [.ref pn], zar pn kn 12 c_, zob g 1 [.ref al, .int (nI gr), .int (nI gs), .int (nI bg), .int (nI re), .int (nI ce)], zob al 2 [.ref ed, .int (nI n), .int mo], zrf ed cE cap a] ++ zcs n ad (zcf d)) H ∧ va_D A ([zob hh 5 [.ref ln], zob ln 4 [.ref pn], zar pn kn 12 c_, zob g 1 [.ref al, .int (nI gr), .int (nI gs), .int (nI bg), .int (nI re), .int (nI ce)], zob al 2 [.ref ed, .int (nI n), .int mo], zrf ed cE cap a] ++ zcs n ad (zcf d)) ∧ va_S A s.heap H locs) ?_ ?_ 0 (Nat.zero_le _) b_ ls H locs ⟨lv_sub hl [0, 1, 2, 3, 4] rfl, hP, hD, hS⟩
    · intro x9 ls H locs hI
      obtain ⟨c_, rfl⟩ : ∃ z, z = x9 := ⟨_, rfl⟩
      obtain ⟨hl, hP, hD, hS⟩ := hI
      have hl : lv_has ls 6 [(4, .int (nI n)), (3, .int (nI i)), (2, .int (nI gp)), (1, .ref g), (0, .ref hh)] := hl
      have hP : va_P (dC, dI) vwCl ([zob hh 5 [.ref ln], zob ln 4 [.ref pn], zar pn kn 12 c_, zob g 1 [.ref al, .int (nI gr), .int (nI gs), .int (nI bg), .int (nI re), .int (nI ce)], zob al 2 [.ref ed, .int (nI n), .int mo], zrf ed cE cap a] ++ zcs n ad (zcf d)) H := hP
      have hD : va_D A ([zob hh 5 [.ref ln], zob ln 4 [.ref pn], zar pn kn 12 c_, zob g 1 [.ref al, .int (nI gr), .int (nI gs), .int (nI bg), .int (nI re), .int (nI ce)], zob al 2 [.ref ed, .int (nI n), .int mo], zrf ed cE cap a] ++ zcs n ad (zcf d)) := hD
      refine lv_iload hx hb dHE_measure_18 (lv_at hl 0 rfl) ?_
      refine lv_aload_n hx hb dHE_measure_20 rfl (lv_at hl 3 rfl) ?_
      refine vp_callSi (W.runV (As := []) (rest := [.int (nI n)]) ⟨hx, hb, hml, hown, hz⟩ (f_GR_cellCount l dC dI g gr gs bg re ce al ed cE cap a mo n ad d (by omega) (by omega) (ha) (hd) (hg)) (cwV 0 hz (z_gV wd_540 wd_376 wd_377 wd_30 wd_378) rfl rfl rfl (by decide +kernel) ⟨Nat.le_of_ble_eq_true rfl, Nat.le_of_ble_eq_true rfl⟩) (zr_preV hK (zt_sub hP [3, 4, 5] rfl) (va_recv (q0 := 3) hK hP (q := (RGR, TGR, 6)) rfl rfl) [1] rfl z_true (fun _ _ _ => trivial)) rfl rfl hl.1 rfl (lv_room (Nat.le_of_ble_eq_true rfl)) dHE_measure_21 ⟨Nat.le_of_ble_eq_true rfl, Nat.le_of_ble_eq_true rfl⟩) (fun r5 h_r5 => ?_)
      have h_r5 : r5 = nI n := h_r5
      subst h_r5
      have t6 := nI_toInt (n := n) (by omega)
      have t7 := nI_toInt (n := n) (by omega)
      refine lv_icmp_ge (tgt := 77) hx hb dHE_measure_24 rfl (fun _ => ?_) (fun h => by have h := z_nle h; omega)
      refine lv_iinc (k := 1) (v := nI (i + 1)) hx hb dHE_measure_77 hl rfl (by rw [show Int32.ofInt 1 = nI 1 from by decide]; exact nI_add _ _) (Nat.le_of_ble_eq_true rfl) rfl (fun ls hl => ?_)
      have hl : lv_has ls 6 [(3, .int (nI (i + 1))), (4, .int (nI n)), (2, .int (nI gp)), (1, .ref g), (0, .ref hh)] := hl
      refine lv_goto (tgt := 9) hx hb dHE_measure_80 rfl ?_
      exact ih c_ ls H locs ⟨lv_sub hl [0, 2, 3, 4] rfl, hP, hD, hS⟩
    · intro j hj jh
      intro x9 ls H locs hI
      obtain ⟨c_, rfl⟩ : ∃ z, z = x9 := ⟨_, rfl⟩
      obtain ⟨hl, hP, hD, hS⟩ := hI
      have hl : lv_has ls 6 [(4, .int (nI j)), (3, .int (nI i)), (2, .int (nI gp)), (1, .ref g), (0, .ref hh)] := hl
      have hP : va_P (dC, dI) vwCl ([zob hh 5 [.ref ln], zob ln 4 [.ref pn], zar pn kn 12 c_, zob g 1 [.ref al, .int (nI gr), .int (nI gs), .int (nI bg), .int (nI re), .int (nI ce)], zob al 2 [.ref ed, .int (nI n), .int mo], zrf ed cE cap a] ++ zcs n ad (zcf d)) H := hP
      have hD : va_D A ([zob hh 5 [.ref ln], zob ln 4 [.ref pn], zar pn kn 12 c_, zob g 1 [.ref al, .int (nI gr), .int (nI gs), .int (nI bg), .int (nI re), .int (nI ce)], zob al 2 [.ref ed, .int (nI n), .int mo], zrf ed cE cap a] ++ zcs n ad (zcf d)) := hD
      refine lv_iload hx hb dHE_measure_18 (lv_at hl 0 rfl) ?_
      refine lv_aload_n hx hb dHE_measure_20 rfl (lv_at hl 3 rfl) ?_
      refine vp_callSi (W.runV (As := []) (rest := [.int (nI j)]) ⟨hx, hb, hml, hown, hz⟩ (f_GR_cellCount l dC dI g gr gs bg re ce al ed cE cap a mo n ad d (by omega) (by omega) (ha) (hd) (hg)) (cwV 0 hz (z_gV wd_540 wd_376 wd_377 wd_30 wd_378) rfl rfl rfl (by decide +kernel) ⟨Nat.le_of_ble_eq_true rfl, Nat.le_of_ble_eq_true rfl⟩) (zr_preV hK (zt_sub hP [3, 4, 5] rfl) (va_recv (q0 := 3) hK hP (q := (RGR, TGR, 6)) rfl rfl) [1] rfl z_true (fun _ _ _ => trivial)) rfl rfl hl.1 rfl (lv_room (Nat.le_of_ble_eq_true rfl)) dHE_measure_21 ⟨Nat.le_of_ble_eq_true rfl, Nat.le_of_ble_eq_true rfl⟩) (fun r8 h_r8 => ?_)
      have h_r8 : r8 = nI n := h_r8
      subst h_r8
      have t9 := nI_toInt (n := j) (by omega)
      have t10 := nI_toInt (n := n) (by omega)
      refine lv_icmp_ge (tgt := 77) hx hb dHE_measure_24 rfl (fun h => by have h := z_le h; omega) (fun _ => ?_)
      refine lv_aload_n hx hb dHE_measure_27 rfl (lv_at hl 3 rfl) ?_
      refine lv_iload hx hb dHE_measure_28 (lv_at hl 0 rfl) ?_
      refine va_csr (W.runV (As := [.int (nI j)]) (rest := []) ⟨hx, hb, hml, hown, hz⟩ (f_GR_cellAt l dC dI g gr gs bg re ce al ed cE cap a mo n ad d j (by omega) (by omega) (ha) (hd) (hg) (by omega)) (cwV 1 hz (z_gV wd_541 wd_360 wd_361 wd_30 wd_362) rfl rfl rfl (by decide +kernel) ⟨Nat.le_of_ble_eq_true rfl, Nat.le_of_ble_eq_true rfl⟩) (zr_preV hK (zt_sub hP [3, 4, 5] rfl) (va_recv (q0 := 3) hK hP (q := (RGR, TGR, 6)) rfl rfl) [1] rfl z_true (fun _ _ _ => trivial)) rfl rfl hl.1 rfl (lv_room (Nat.le_of_ble_eq_true rfl)) dHE_measure_30 ⟨Nat.le_of_ble_eq_true rfl, Nat.le_of_ble_eq_true rfl⟩) (fun r11 h_r11 => ?_)
      have h_r11 : r11 = ad j := h_r11
      subst h_r11
      have hBj := hB j hj
      refine lv_astore hx hb dHE_measure_33 hl (Nat.le_of_ble_eq_true rfl) rfl (fun ls hl => ?_)
      have hl : lv_has ls 6 [(5, .ref (ad j)), (4, .int (nI j)), (3, .int (nI i)), (2, .int (nI gp)), (1, .ref g), (0, .ref hh)] := hl
      refine lv_aload hx hb dHE_measure_35 (lv_at hl 0 rfl) ?_
      refine va_get (D := (dC, dI)) (ci := 7) (v := .int (nI (d 7 j))) (C := RCE) (T := TCE) (N := 10) hx hb hz in_CE hown hK hP (6 + j) (zcs_get rfl (by omega)) rfl 7 (by decide) (hz _ wd_272) (fun _ h9 => h9) rfl dHE_measure_37 ?_
      refine lv_iload_n hx hb dHE_measure_40 rfl (lv_at hl 2 rfl) ?_
      have t12 := hd 7 j (by omega)
      have t13 := nI_toInt (n := d 7 j) (by omega)
      have t14 := nI_toInt (n := i) (by omega)
      refine lv_icmp_ne (tgt := 71) hx hb dHE_measure_41 rfl (fun h15 => ?_) (fun h15 => ?_)
      · have h15 := z_ne h15
        refine lv_iinc (k := 1) (v := nI (j + 1)) hx hb dHE_measure_71 hl rfl (by rw [show Int32.ofInt 1 = nI 1 from by decide]; exact nI_add _ _) (Nat.le_of_ble_eq_true rfl) rfl (fun ls hl => ?_)
        have hl : lv_has ls 6 [(4, .int (nI (j + 1))), (5, .ref (ad j)), (3, .int (nI i)), (2, .int (nI gp)), (1, .ref g), (0, .ref hh)] := hl
        refine lv_goto (tgt := 18) hx hb dHE_measure_74 rfl ?_
        exact jh c_ ls H locs ⟨lv_sub hl [0, 2, 3, 4, 5] rfl, hP, hD, hS⟩
      · have h15 := z_eq h15
        refine lv_aload_n hx hb dHE_measure_44 rfl (lv_at hl 5 rfl) ?_
        refine va_get (D := (dC, dI)) (ci := 5) (v := .ref ln) (C := RHE) (T := THE) (N := 1) hx hb hz in_HE hown hK hP 0 rfl rfl 0 (by decide) (hz _ wd_145) (fun _ h9 => h9) rfl dHE_measure_45 ?_
        refine lv_aload hx hb dHE_measure_48 (lv_at hl 0 rfl) ?_
        refine va_get (D := (dC, dI)) (ci := 7) (v := .int (nI (d 5 j))) (C := RCE) (T := TCE) (N := 10) hx hb hz in_CE hown hK hP (6 + j) (zcs_get rfl (by omega)) rfl 5 (by decide) (hz _ wd_269) (fun _ h9 => h9) rfl dHE_measure_50 ?_
        refine lv_iload_n hx hb dHE_measure_53 rfl (lv_at hl 3 rfl) ?_
        refine lv_aload_n hx hb dHE_measure_54 rfl (lv_at hl 5 rfl) ?_
        refine va_get (D := (dC, dI)) (ci := 5) (v := .ref ln) (C := RHE) (T := THE) (N := 1) hx hb hz in_HE hown hK hP 0 rfl rfl 0 (by decide) (hz _ wd_145) (fun _ h9 => h9) rfl dHE_measure_55 ?_
        refine lv_aload hx hb dHE_measure_58 (lv_at hl 0 rfl) ?_
        refine va_get (D := (dC, dI)) (ci := 7) (v := .int (nI (d 1 j))) (C := RCE) (T := TCE) (N := 10) hx hb hz in_CE hown hK hP (6 + j) (zcs_get rfl (by omega)) rfl 1 (by decide) (hz _ wd_256) (fun _ h9 => h9) rfl dHE_measure_60 ?_
        refine lv_aload hx hb dHE_measure_63 (lv_at hl 0 rfl) ?_
        refine vp_callSi (W.runV (As := []) (rest := [.int (nI (d 1 j)), .ref ln, .int (nI gp), .int (nI (d 5 j)), .ref ln]) ⟨hx, hb, hml, hown, hz⟩ (f_CE_bottom l dC dI (ad j) (d 0 j) (d 1 j) (d 2 j) (d 3 j) (d 4 j) (d 5 j) (d 6 j) (d 7 j) (d 8 j) (d 9 j) ) (cwV 0 hz (z_gV wd_542 wd_243 wd_244 wd_41 wd_245) rfl rfl rfl (by decide +kernel) ⟨Nat.le_of_ble_eq_true rfl, Nat.le_of_ble_eq_true rfl⟩) (zr_preV hK (zt_one hP (zcs_get rfl (by omega))) (va_recv hK hP (q := (RCE, TCE, 10)) rfl (zcs_get rfl (by omega))) [] rfl z_true (fun _ _ _ => trivial)) rfl rfl hl.1 rfl (lv_room (Nat.le_of_ble_eq_true rfl)) dHE_measure_65 ⟨Nat.le_of_ble_eq_true rfl, Nat.le_of_ble_eq_true rfl⟩) (fun r16 h_r16 => ?_)
        have h_r16 : r16 = nI ((d 1 j) + (d 7 j)) := h_r16
        subst h_r16
        refine zw_callTv (wr := [zob hh 5 [.ref ln], zob g 1 [.ref al, .int (nI gr), .int (nI gs), .int (nI bg), .int (nI re), .int (nI ce)], zob al 2 [.ref ed, .int (nI n), .int mo], zrf ed cE cap a]) hK hP hD hS hA [1, 2] [0, 3, 4, 5] rfl rfl (by decide) (by decide) (va_runV (As := [.int (nI (d 5 j)), .int (nI gp), .ref ln, .int (nI (d 1 j)), .int (nI ((d 1 j) + (d 7 j)))]) (rest := []) ⟨hx, hb, hml, hown, hz⟩ ((f_LI_stretchA l dC dI (zcs n ad (zcf d)) ln pn kn c_ (nI (d 5 j)) gp (d 1 j) ((d 1 j) + (d 7 j)) (by omega) (by omega)) H.size) (cwV 5 hz (z_gV wd_543 wd_472 wd_473 wd_35 wd_474) rfl rfl rfl (by decide +kernel) ⟨Nat.le_of_ble_eq_true rfl, Nat.le_of_ble_eq_true rfl⟩) (zw_preVT hK hP hD (va_recv (q0 := 1) hK hP (q := (RLI, TLI, 1)) rfl rfl) [1, 2] (by decide) rfl [0] rfl z_true (fun _ _ _ => trivial)) rfl rfl hl.1 rfl (lv_room (Nat.le_of_ble_eq_true rfl)) dHE_measure_68 ⟨Nat.le_of_ble_eq_true rfl, Nat.le_of_ble_eq_true rfl⟩) (fun u H locs h_r18 hP hD hK hS => ?_)
        obtain ⟨f_17, rfl⟩ : ∃ z, z = u := ⟨_, rfl⟩
        have hP : va_P (dC, dI) vwCl ([zob hh 5 [.ref ln], zob ln 4 [.ref pn], zar pn kn 12 f_17, zob g 1 [.ref al, .int (nI gr), .int (nI gs), .int (nI bg), .int (nI re), .int (nI ce)], zob al 2 [.ref ed, .int (nI n), .int mo], zrf ed cE cap a] ++ zcs n ad (zcf d)) H := zt_sub hP [0, 4, 5, 1, 2, 3] rfl
        have hD : va_D A ([zob hh 5 [.ref ln], zob ln 4 [.ref pn], zar pn kn 12 f_17, zob g 1 [.ref al, .int (nI gr), .int (nI gs), .int (nI bg), .int (nI re), .int (nI ce)], zob al 2 [.ref ed, .int (nI n), .int mo], zrf ed cE cap a] ++ zcs n ad (zcf d)) := zt_subD hD [0, 4, 5, 1, 2, 3] (by decide) rfl
        have hK : va_K (dC, dI) vwCl [(kn, .int), (cE, .object "java/lang/Object")] s := hK
        refine lv_iinc (k := 1) (v := nI (j + 1)) hx hb dHE_measure_71 hl rfl (by rw [show Int32.ofInt 1 = nI 1 from by decide]; exact nI_add _ _) (Nat.le_of_ble_eq_true rfl) rfl (fun ls hl => ?_)
        have hl : lv_has ls 6 [(4, .int (nI (j + 1))), (5, .ref (ad j)), (3, .int (nI i)), (2, .int (nI gp)), (1, .ref g), (0, .ref hh)] := hl
        refine lv_goto (tgt := 18) hx hb dHE_measure_74 rfl ?_
        exact jh f_17 ls H locs ⟨lv_sub hl [0, 2, 3, 4, 5] rfl, hP, hD, hS⟩
