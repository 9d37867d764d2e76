set_option maxHeartbeats 4000000 in
set_option maxRecDepth 100000 in
theorem f_WI_chooseFixed (l : Launch) (dC : Nat → ClassId) (dI : Nat → Nat → Nat) (wd : Nat) (l0 : Nat) (l1 : Nat) (l2 : Nat) (l3 : Nat) (p0 : Nat) (p1 : Nat) (p2 : Nat) (p3 : Nat) (kp0 : ClassId) (kp1 : ClassId) (kp2 : ClassId) (kp3 : ClassId) (g0 : Nat → Int32) (g1 : Nat → Int32) (g2 : Nat → Int32) (g3 : Nat → Int32) (g : Nat) (gr : Nat) (gs : Nat) (bg : Nat) (re : Nat) (ce : Nat) (al : Nat) (ed : Nat) (cE : ClassId) (cap : Nat) (a : Nat → Option Nat) (mo : Int32) (n : Nat) (ad : Nat → Nat) (d : Nat → Nat → Nat) (gp : Nat) (rm : Int32) (hn : n ≤ cap) (hc : cap < 2147483648) (ha : ∀ k, k < n → a k = some (ad k)) (hd : ∀ j k, k < n → d j k ≤ 1000) (hg : gr ≤ 1000 ∧ gs ≤ 1000 ∧ bg ≤ 1000 ∧ re ≤ 1000 ∧ ce ≤ 1000) (hL : ∀ k, k < n → d 0 k + d 2 k ≤ 12) (hB : ∀ k, k < n → d 1 k + d 7 k ≤ 12) (hRc : ∀ k, k < n → d 0 k + d 2 k ≤ ce) (h12 : ce ≤ 12 ∧ re ≤ 12) : zw_Mv (S := (Nat → Int32) × (Nat → Int32) × (Nat → Int32) × (Nat → Int32)) l yWI_chooseFixed wWI_chooseFixed ({ frames := 4, cells := 0, slots := 0, locals := 85 }) [.ref wd, .ref g, .int (nI gp), .int rm] (dC, dI) vwCl ([zob wd 3 [.ref l0, .ref l1, .ref l2, .ref l3], zob l0 4 [.ref p0], zob l1 4 [.ref p1], zob l2 4 [.ref p2], zob l3 4 [.ref p3], zar p0 kp0 12 g0, zar p1 kp1 12 g1, zar p2 kp2 12 g2, zar p3 kp3 12 g3, zob g 1 [.ref al, .int (nI gr), .int (nI gs), .int (nI bg), .int (nI re), .int (nI ce)], zob al 2 [.ref ed, .int (nI n), .int mo], zrf ed cE cap a] ++ zcs n ad (zcf d)) [(kp0, .int), (kp1, .int), (kp2, .int), (kp3, .int), (cE, .object "java/lang/Object")] (fun _ _ => True) (fun u => match u with | (u0, u1, u2, u3) => True) (fun u => match u with | (u0, u1, u2, u3) => ([zob wd 3 [.ref l0, .ref l1, .ref l2, .ref l3], zob l0 4 [.ref p0], zob l1 4 [.ref p1], zob l2 4 [.ref p2], zob l3 4 [.ref p3], zar p0 kp0 12 u0, zar p1 kp1 12 u1, zar p2 kp2 12 u2, zar p3 kp3 12 u3, zob g 1 [.ref al, .int (nI gr), .int (nI gs), .int (nI bg), .int (nI re), .int (nI ce)], zob al 2 [.ref ed, .int (nI n), .int mo], zrf ed cE cap a] ++ zcs n ad (zcf d))) (fun u => match u with | (u0, u1, u2, u3) => []) 0 0 := by
  refine zw_headv (cc := cWI_chooseFixed) (maxL := 8) (ret := none) (by decide +kernel) rfl (Nat.le_of_ble_eq_true rfl) ?_
  intro p e s m below meth c ls A F hnm hA hP hK hD hS hX hl
  obtain ⟨hx, hb, hml, hr, hlocks, hown, hts⟩ := F
  have hown : s.vm.findClass "SpannedCells$Widths" = some m.cls := hown
  have hz : ∀ w9 ∈ zT, w9.before [.ref wd, .ref g, .int (nI gp), .int rm].toArray s = true := fun w9 h => hts w9 (List.mem_cons_of_mem _ h)
  have hl : lv_has ls 8 [(0, .ref wd), (1, .ref g), (2, .int (nI gp)), (3, .int rm)] := hl
  refine z_q (fun Q hQ => ?_)
  refine lv_aload_n hx hb dWI_chooseFixed_0 rfl (lv_at hl 0 rfl) ?_
  refine va_get (D := (dC, dI)) (ci := 3) (v := .ref l2) (C := RWI) (T := TWI) (N := 4) hx hb hz in_WI hown hK hP 0 rfl rfl 2 (by decide) (hz _ wd_125) (fun _ h9 => h9) rfl dWI_chooseFixed_1 ?_
  refine zw_callTv (wr := [zob wd 3 [.ref l0, .ref l1, .ref l2, .ref l3], zob l0 4 [.ref p0], zob l1 4 [.ref p1], zob l3 4 [.ref p3], zar p0 kp0 12 g0, zar p1 kp1 12 g1, zar p3 kp3 12 g3, zob g 1 [.ref al, .int (nI gr), .int (nI gs), .int (nI bg), .int (nI re), .int (nI ce)], zob al 2 [.ref ed, .int (nI n), .int mo], zrf ed cE cap a]) hK hP hD hS hA [3, 7] [0, 1, 2, 4, 5, 6, 8, 9, 10, 11] rfl rfl (by decide) (by decide) (va_runV (As := []) (rest := []) ⟨hx, hb, hml, hown, hz⟩ ((f_LI_reset l dC dI (zcs n ad (zcf d)) l2 p2 kp2 g2 ) s.heap.size) (cwV 0 hz (z_gV wd_457 wd_458 wd_459 wd_35 wd_460) rfl rfl rfl (by decide +kernel) ⟨Nat.le_of_ble_eq_true rfl, Nat.le_of_ble_eq_true rfl⟩) (zw_preVT hK hP hD (va_recv (q0 := 3) hK hP (q := (RLI, TLI, 1)) rfl rfl) [3, 7] (by decide) rfl [2] rfl z_true (fun _ _ _ => trivial)) rfl rfl hl.1 rfl (lv_room (Nat.le_of_ble_eq_true rfl)) dWI_chooseFixed_4 ⟨Nat.le_of_ble_eq_true rfl, Nat.le_of_ble_eq_true rfl⟩) (fun u H locs h_r2 hP hD hK hS => ?_)
  obtain ⟨f_1, rfl⟩ : ∃ z, z = u := ⟨_, rfl⟩
  have hP : va_P (dC, dI) vwCl ([zob wd 3 [.ref l0, .ref l1, .ref l2, .ref l3], zob l0 4 [.ref p0], zob l1 4 [.ref p1], zob l2 4 [.ref p2], zob l3 4 [.ref p3], zar p0 kp0 12 g0, zar p1 kp1 12 g1, zar p2 kp2 12 f_1, zar p3 kp3 12 g3, zob g 1 [.ref al, .int (nI gr), .int (nI gs), .int (nI bg), .int (nI re), .int (nI ce)], zob al 2 [.ref ed, .int (nI n), .int mo], zrf ed cE cap a] ++ zcs n ad (zcf d)) H := zt_sub hP [0, 1, 2, 10, 3, 4, 5, 11, 6, 7, 8, 9] rfl
  have hD : va_D A ([zob wd 3 [.ref l0, .ref l1, .ref l2, .ref l3], zob l0 4 [.ref p0], zob l1 4 [.ref p1], zob l2 4 [.ref p2], zob l3 4 [.ref p3], zar p0 kp0 12 g0, zar p1 kp1 12 g1, zar p2 kp2 12 f_1, zar p3 kp3 12 g3, zob g 1 [.ref al, .int (nI gr), .int (nI gs), .int (nI bg), .int (nI re), .int (nI ce)], zob al 2 [.ref ed, .int (nI n), .int mo], zrf ed cE cap a] ++ zcs n ad (zcf d)) := zt_subD hD [0, 1, 2, 10, 3, 4, 5, 11, 6, 7, 8, 9] (by decide) rfl
  have hK : va_K (dC, dI) vwCl [(kp0, .int), (kp1, .int), (kp2, .int), (kp3, .int), (cE, .object "java/lang/Object")] s := hK
  refine lv_aload_n hx hb dWI_chooseFixed_7 rfl (lv_at hl 0 rfl) ?_
  refine va_get (D := (dC, dI)) (ci := 3) (v := .ref l3) (C := RWI) (T := TWI) (N := 4) hx hb hz in_WI hown hK hP 0 rfl rfl 3 (by decide) (hz _ wd_127) (fun _ h9 => h9) rfl dWI_chooseFixed_8 ?_
  refine zw_callTv (wr := [zob wd 3 [.ref l0, .ref l1, .ref l2, .ref l3], zob l0 4 [.ref p0], zob l1 4 [.ref p1], zob l2 4 [.ref p2], zar p0 kp0 12 g0, zar p1 kp1 12 g1, zar p2 kp2 12 f_1, zob g 1 [.ref al, .int (nI gr), .int (nI gs), .int (nI bg), .int (nI re), .int (nI ce)], zob al 2 [.ref ed, .int (nI n), .int mo], zrf ed cE cap a]) hK hP hD hS hA [4, 8] [0, 1, 2, 3, 5, 6, 7, 9, 10, 11] rfl rfl (by decide) (by decide) (va_runV (As := []) (rest := []) ⟨hx, hb, hml, hown, hz⟩ ((f_LI_reset l dC dI (zcs n ad (zcf d)) l3 p3 kp3 g3 ) H.size) (cwV 0 hz (z_gV wd_457 wd_458 wd_459 wd_35 wd_460) rfl rfl rfl (by decide +kernel) ⟨Nat.le_of_ble_eq_true rfl, Nat.le_of_ble_eq_true rfl⟩) (zw_preVT hK hP hD (va_recv (q0 := 4) hK hP (q := (RLI, TLI, 1)) rfl rfl) [4, 8] (by decide) rfl [3] rfl z_true (fun _ _ _ => trivial)) rfl rfl hl.1 rfl (lv_room (Nat.le_of_ble_eq_true rfl)) dWI_chooseFixed_11 ⟨Nat.le_of_ble_eq_true rfl, Nat.le_of_ble_eq_true rfl⟩) (fun u H locs h_r4 hP hD hK hS => ?_)
  obtain ⟨f_3, rfl⟩ : ∃ z, z = u := ⟨_, rfl⟩
  have hP : va_P (dC, dI) vwCl ([zob wd 3 [.ref l0, .ref l1, .ref l2, .ref l3], zob l0 4 [.ref p0], zob l1 4 [.ref p1], zob l2 4 [.ref p2], zob l3 4 [.ref p3], zar p0 kp0 12 g0, zar p1 kp1 12 g1, zar p2 kp2 12 f_1, zar p3 kp3 12 f_3, zob g 1 [.ref al, .int (nI gr), .int (nI gs), .int (nI bg), .int (nI re), .int (nI ce)], zob al 2 [.ref ed, .int (nI n), .int mo], zrf ed cE cap a] ++ zcs n ad (zcf d)) H := zt_sub hP [0, 1, 2, 3, 10, 4, 5, 6, 11, 7, 8, 9] rfl
  have hD : va_D A ([zob wd 3 [.ref l0, .ref l1, .ref l2, .ref l3], zob l0 4 [.ref p0], zob l1 4 [.ref p1], zob l2 4 [.ref p2], zob l3 4 [.ref p3], zar p0 kp0 12 g0, zar p1 kp1 12 g1, zar p2 kp2 12 f_1, zar p3 kp3 12 f_3, zob g 1 [.ref al, .int (nI gr), .int (nI gs), .int (nI bg), .int (nI re), .int (nI ce)], zob al 2 [.ref ed, .int (nI n), .int mo], zrf ed cE cap a] ++ zcs n ad (zcf d)) := zt_subD hD [0, 1, 2, 3, 10, 4, 5, 6, 11, 7, 8, 9] (by decide) rfl
  have hK : va_K (dC, dI) vwCl [(kp0, .int), (kp1, .int), (kp2, .int), (kp3, .int), (cE, .object "java/lang/Object")] s := hK
  refine lv_iconst (v := nI 0) hx hb dWI_chooseFixed_14 (by decide) ?_
  refine lv_istore hx hb dWI_chooseFixed_15 hl (Nat.le_of_ble_eq_true rfl) rfl (fun ls hl => ?_)
  have hl : lv_has ls 8 [(4, .int (nI 0)), (0, .ref wd), (1, .ref g), (2, .int (nI gp)), (3, .int rm)] := hl
  refine lv_iconst (v := nI 0) hx hb dWI_chooseFixed_17 (by decide) ?_
  refine lv_istore hx hb dWI_chooseFixed_18 hl (Nat.le_of_ble_eq_true rfl) rfl (fun ls hl => ?_)
  have hl : lv_has ls 8 [(5, .int (nI 0)), (4, .int (nI 0)), (0, .ref wd), (1, .ref g), (2, .int (nI gp)), (3, .int rm)] := hl
  refine zl_upW (σ := (Nat → Int32) × (Nat → Int32) × (Nat → Int32) × (Nat → Int32) × (Nat)) n (fun i x9 ls H locs => match x9 with | (b_0, b_1, b_2, b_3, gv) => lv_has ls 8 [(5, .int (nI i)), (4, .int (nI gv)), (3, .int rm), (2, .int (nI gp)), (1, .ref g), (0, .ref wd)] ∧ (gv ≤ ce) ∧ va_P (dC, dI) vwCl ([zob wd 3 [.ref l0, .ref l1, .ref l2, .ref l3], zob l0 4 [.ref p0], zob l1 4 [.ref p1], zob l2 4 [.ref p2], zob l3 4 [.ref p3], zar p0 kp0 12 b_0, zar p1 kp1 12 b_1, zar p2 kp2 12 b_2, zar p3 kp3 12 b_3, zob g 1 [.ref al, .int (nI gr), .int (nI gs), .int (nI bg), .int (nI re), .int (nI ce)], zob al 2 [.ref ed, .int (nI n), .int mo], zrf ed cE cap a] ++ zcs n ad (zcf d)) H ∧ va_D A ([zob wd 3 [.ref l0, .ref l1, .ref l2, .ref l3], zob l0 4 [.ref p0], zob l1 4 [.ref p1], zob l2 4 [.ref p2], zob l3 4 [.ref p3], zar p0 kp0 12 b_0, zar p1 kp1 12 b_1, zar p2 kp2 12 b_2, zar p3 kp3 12 b_3, zob g 1 [.ref al, .int (nI gr), .int (nI gs), .int (nI bg), .int (nI re), .int (nI ce)], zob al 2 [.ref ed, .int (nI n), .int mo], zrf ed cE cap a] ++ zcs n ad (zcf d)) ∧ va_S A s.heap H locs) ?_ ?_ 0 (Nat.zero_le _) (g0, g1, f_1, f_3, 0) ls H locs ⟨lv_sub hl [0, 1, 5, 4, 3, 2] rfl, Nat.zero_le _, hP, hD, hS⟩
  · intro x9 ls H locs hI
    obtain ⟨b_0, b_1, b_2, b_3, gv⟩ := x9
    obtain ⟨hl, hxI, hP, hD, hS⟩ := hI
    have hl : lv_has ls 8 [(5, .int (nI n)), (4, .int (nI gv)), (3, .int rm), (2, .int (nI gp)), (1, .ref g), (0, .ref wd)] := hl
    have hP : va_P (dC, dI) vwCl ([zob wd 3 [.ref l0, .ref l1, .ref l2, .ref l3], zob l0 4 [.ref p0], zob l1 4 [.ref p1], zob l2 4 [.ref p2], zob l3 4 [.ref p3], zar p0 kp0 12 b_0, zar p1 kp1 12 b_1, zar p2 kp2 12 b_2, zar p3 kp3 12 b_3, zob g 1 [.ref al, .int (nI gr), .int (nI gs), .int (nI bg), .int (nI re), .int (nI ce)], zob al 2 [.ref ed, .int (nI n), .int mo], zrf ed cE cap a] ++ zcs n ad (zcf d)) H := hP
    have hD : va_D A ([zob wd 3 [.ref l0, .ref l1, .ref l2, .ref l3], zob l0 4 [.ref p0], zob l1 4 [.ref p1], zob l2 4 [.ref p2], zob l3 4 [.ref p3], zar p0 kp0 12 b_0, zar p1 kp1 12 b_1, zar p2 kp2 12 b_2, zar p3 kp3 12 b_3, zob g 1 [.ref al, .int (nI gr), .int (nI gs), .int (nI bg), .int (nI re), .int (nI ce)], zob al 2 [.ref ed, .int (nI n), .int mo], zrf ed cE cap a] ++ zcs n ad (zcf d)) := hD
    refine lv_iload hx hb dWI_chooseFixed_20 (lv_at hl 0 rfl) ?_
    refine lv_aload_n hx hb dWI_chooseFixed_22 rfl (lv_at hl 4 rfl) ?_
    refine vp_callSi (W.runV (As := []) (rest := [.int (nI n)]) ⟨hx, hb, hml, hown, hz⟩ (f_GR_cellCount l dC dI g gr gs bg re ce al ed cE cap a mo n ad d (by omega) (by omega) (ha) (hd) (hg)) (cwV 0 hz (z_gV wd_464 wd_376 wd_377 wd_30 wd_378) rfl rfl rfl (by decide +kernel) ⟨Nat.le_of_ble_eq_true rfl, Nat.le_of_ble_eq_true rfl⟩) (zr_preV hK (zt_sub hP [9, 10, 11] rfl) (va_recv (q0 := 9) hK hP (q := (RGR, TGR, 6)) rfl rfl) [4] rfl z_true (fun _ _ _ => trivial)) rfl rfl hl.1 rfl (lv_room (Nat.le_of_ble_eq_true rfl)) dWI_chooseFixed_23 ⟨Nat.le_of_ble_eq_true rfl, Nat.le_of_ble_eq_true rfl⟩) (fun r5 h_r5 => ?_)
    have h_r5 : r5 = nI n := h_r5
    subst h_r5
    have t6 := nI_toInt (n := n) (by omega)
    have t7 := nI_toInt (n := n) (by omega)
    refine lv_icmp_ge (tgt := 102) hx hb dWI_chooseFixed_26 rfl (fun _ => ?_) (fun h => by have h := z_nle h; omega)
    refine lv_iconst (v := nI 0) hx hb dWI_chooseFixed_102 (by decide) ?_
    refine lv_iload_n hx hb dWI_chooseFixed_103 rfl (lv_at hl 2 rfl) ?_
    refine lv_aload_n hx hb dWI_chooseFixed_104 rfl (lv_at hl 5 rfl) ?_
    refine va_get (D := (dC, dI)) (ci := 3) (v := .ref l2) (C := RWI) (T := TWI) (N := 4) hx hb hz in_WI hown hK hP 0 rfl rfl 2 (by decide) (hz _ wd_125) (fun _ h9 => h9) rfl dWI_chooseFixed_105 ?_
    refine lv_iconst (v := nI 0) hx hb dWI_chooseFixed_108 (by decide) ?_
    refine lv_iload hx hb dWI_chooseFixed_109 (lv_at hl 1 rfl) ?_
    refine vp_callSi (W.runV (As := [.int (nI 0), .int (nI gv)]) (rest := [.int rm, .int (nI 0)]) ⟨hx, hb, hml, hown, hz⟩ (f_LI_sum l dC dI l2 p2 kp2 b_2 0 gv (by omega) (by omega)) (cwV 2 hz (z_gV wd_507 wd_480 wd_481 wd_35 wd_482) rfl rfl rfl (by decide +kernel) ⟨Nat.le_of_ble_eq_true rfl, Nat.le_of_ble_eq_true rfl⟩) (zr_preV hK (hP.sub [3, 7] rfl) (va_recv (q0 := 3) hK hP (q := (RLI, TLI, 1)) rfl rfl) [2] rfl z_true (fun _ _ _ => trivial)) rfl rfl hl.1 rfl (lv_room (Nat.le_of_ble_eq_true rfl)) dWI_chooseFixed_111 ⟨Nat.le_of_ble_eq_true rfl, Nat.le_of_ble_eq_true rfl⟩) (fun r8 h_r8 => ?_)
    refine lv_isub hx hb dWI_chooseFixed_114 ?_
    refine lv_topi (fun y9 _ => ?_)
    refine va_mmax hx hb (hml.trans hl.1.symm) hown (hz _ wd_505) (hz _ wd_190) (hz _ wd_38) (hz _ wd_191) (Nat.le_of_ble_eq_true rfl) (Nat.le_of_ble_eq_true rfl) (Nat.le_of_ble_eq_true rfl) (Nat.le_of_ble_eq_true rfl) dWI_chooseFixed_115 ?_
    refine lv_topi (fun y10 _ => ?_)
    refine lv_istore hx hb dWI_chooseFixed_118 hl (Nat.le_of_ble_eq_true rfl) rfl (fun ls hl => ?_)
    have hl : lv_has ls 8 [(5, .int y10), (4, .int (nI gv)), (3, .int rm), (2, .int (nI gp)), (1, .ref g), (0, .ref wd)] := hl
    refine lv_aload_n hx hb dWI_chooseFixed_120 rfl (lv_at hl 5 rfl) ?_
    refine va_get (D := (dC, dI)) (ci := 3) (v := .ref l2) (C := RWI) (T := TWI) (N := 4) hx hb hz in_WI hown hK hP 0 rfl rfl 2 (by decide) (hz _ wd_125) (fun _ h9 => h9) rfl dWI_chooseFixed_121 ?_
    refine lv_iload hx hb dWI_chooseFixed_124 (lv_at hl 0 rfl) ?_
    refine lv_aload_n hx hb dWI_chooseFixed_126 rfl (lv_at hl 5 rfl) ?_
    refine va_get (D := (dC, dI)) (ci := 3) (v := .ref l3) (C := RWI) (T := TWI) (N := 4) hx hb hz in_WI hown hK hP 0 rfl rfl 3 (by decide) (hz _ wd_127) (fun _ h9 => h9) rfl dWI_chooseFixed_127 ?_
    refine lv_iload hx hb dWI_chooseFixed_130 (lv_at hl 1 rfl) ?_
    refine lv_aload_n hx hb dWI_chooseFixed_132 rfl (lv_at hl 4 rfl) ?_
    refine vp_callSi (W.runV (As := []) (rest := [.int (nI gv), .ref l3, .int y10, .ref l2]) ⟨hx, hb, hml, hown, hz⟩ (f_GR_columnCount l dC dI g gr gs bg re ce al ed cE cap a mo n ad d (by omega) (by omega) (ha) (hd) (hg)) (cwV 0 hz (z_gV wd_508 wd_392 wd_393 wd_30 wd_394) rfl rfl rfl (by decide +kernel) ⟨Nat.le_of_ble_eq_true rfl, Nat.le_of_ble_eq_true rfl⟩) (zr_preV hK (zt_sub hP [9, 10, 11] rfl) (va_recv (q0 := 9) hK hP (q := (RGR, TGR, 6)) rfl rfl) [4] rfl z_true (fun _ _ _ => trivial)) rfl rfl hl.1 rfl (lv_room (Nat.le_of_ble_eq_true rfl)) dWI_chooseFixed_133 ⟨Nat.le_of_ble_eq_true rfl, Nat.le_of_ble_eq_true rfl⟩) (fun r11 h_r11 => ?_)
    have h_r11 : r11 = nI ce := h_r11
    subst h_r11
    refine zw_callTv (wr := [zob wd 3 [.ref l0, .ref l1, .ref l2, .ref l3], zob l0 4 [.ref p0], zob l1 4 [.ref p1], zar p0 kp0 12 b_0, zar p1 kp1 12 b_1, zob g 1 [.ref al, .int (nI gr), .int (nI gs), .int (nI bg), .int (nI re), .int (nI ce)], zob al 2 [.ref ed, .int (nI n), .int mo], zrf ed cE cap a]) hK hP hD hS hA [3, 7, 4, 8] [0, 1, 2, 5, 6, 9, 10, 11] rfl rfl (by decide) (by decide) (va_runV (As := [.int y10, .ref l3, .int (nI gv), .int (nI ce)]) (rest := []) ⟨hx, hb, hml, hown, hz⟩ ((f_LI_shareOut l dC dI (zcs n ad (zcf d)) l2 p2 kp2 b_2 l3 p3 kp3 b_3 y10 gv ce (by omega) (by omega)) H.size) (cwV 4 hz (z_gV wd_506 wd_484 wd_485 wd_35 wd_486) rfl rfl rfl (by decide +kernel) ⟨Nat.le_of_ble_eq_true rfl, Nat.le_of_ble_eq_true rfl⟩) (zw_preVT hK hP hD (va_recv (q0 := 3) hK hP (q := (RLI, TLI, 1)) rfl rfl) [3, 7, 4, 8] (by decide) rfl [2, 3] rfl z_true (fun _ _ _ => trivial)) rfl rfl hl.1 rfl (lv_room (Nat.le_of_ble_eq_true rfl)) dWI_chooseFixed_136 ⟨Nat.le_of_ble_eq_true rfl, Nat.le_of_ble_eq_true rfl⟩) (fun u H locs h_r13 hP hD hK hS => ?_)
    obtain ⟨f_12, rfl⟩ : ∃ z, z = u := ⟨_, rfl⟩
    have hP : va_P (dC, dI) vwCl ([zob wd 3 [.ref l0, .ref l1, .ref l2, .ref l3], zob l0 4 [.ref p0], zob l1 4 [.ref p1], zob l2 4 [.ref p2], zob l3 4 [.ref p3], zar p0 kp0 12 b_0, zar p1 kp1 12 b_1, zar p2 kp2 12 f_12, zar p3 kp3 12 b_3, zob g 1 [.ref al, .int (nI gr), .int (nI gs), .int (nI bg), .int (nI re), .int (nI ce)], zob al 2 [.ref ed, .int (nI n), .int mo], zrf ed cE cap a] ++ zcs n ad (zcf d)) H := zt_sub hP [0, 1, 2, 8, 10, 3, 4, 9, 11, 5, 6, 7] rfl
    have hD : va_D A ([zob wd 3 [.ref l0, .ref l1, .ref l2, .ref l3], zob l0 4 [.ref p0], zob l1 4 [.ref p1], zob l2 4 [.ref p2], zob l3 4 [.ref p3], zar p0 kp0 12 b_0, zar p1 kp1 12 b_1, zar p2 kp2 12 f_12, zar p3 kp3 12 b_3, zob g 1 [.ref al, .int (nI gr), .int (nI gs), .int (nI bg), .int (nI re), .int (nI ce)], zob al 2 [.ref ed, .int (nI n), .int mo], zrf ed cE cap a] ++ zcs n ad (zcf d)) := zt_subD hD [0, 1, 2, 8, 10, 3, 4, 9, 11, 5, 6, 7] (by decide) rfl
    have hK : va_K (dC, dI) vwCl [(kp0, .int), (kp1, .int), (kp2, .int), (kp3, .int), (cE, .object "java/lang/Object")] s := hK
    subst hQ
    exact zw_vret (D := (dC, dI)) (cl := vwCl) (A := A) (b_0, b_1, f_12, b_3) hx hb hr hlocks (trivial) (zt_sub hP [0, 1, 2, 3, 4, 5, 6, 7, 8, 9, 10, 11] rfl) (hK.sub [] rfl) (zt_subD hD [0, 1, 2, 3, 4, 5, 6, 7, 8, 9, 10, 11] (by decide) rfl) hS dWI_chooseFixed_139
  · intro i hi ih
    intro x9 ls H locs hI
    obtain ⟨b_0, b_1, b_2, b_3, gv⟩ := x9
    obtain ⟨hl, hxI, hP, hD, hS⟩ := hI
    have hl : lv_has ls 8 [(5, .int (nI i)), (4, .int (nI gv)), (3, .int rm), (2, .int (nI gp)), (1, .ref g), (0, .ref wd)] := hl
    have hP : va_P (dC, dI) vwCl ([zob wd 3 [.ref l0, .ref l1, .ref l2, .ref l3], zob l0 4 [.ref p0], zob l1 4 [.ref p1], zob l2 4 [.ref p2], zob l3 4 [.ref p3], zar p0 kp0 12 b_0, zar p1 kp1 12 b_1, zar p2 kp2 12 b_2, zar p3 kp3 12 b_3, zob g 1 [.ref al, .int (nI gr), .int (nI gs), .int (nI bg), .int (nI re), .int (nI ce)], zob al 2 [.ref ed, .int (nI n), .int mo], zrf ed cE cap a] ++ zcs n ad (zcf d)) H := hP
    have hD : va_D A ([zob wd 3 [.ref l0, .ref l1, .ref l2, .ref l3], zob l0 4 [.ref p0], zob l1 4 [.ref p1], zob l2 4 [.ref p2], zob l3 4 [.ref p3], zar p0 kp0 12 b_0, zar p1 kp1 12 b_1, zar p2 kp2 12 b_2, zar p3 kp3 12 b_3, zob g 1 [.ref al, .int (nI gr), .int (nI gs), .int (nI bg), .int (nI re), .int (nI ce)], zob al 2 [.ref ed, .int (nI n), .int mo], zrf ed cE cap a] ++ zcs n ad (zcf d)) := hD
    refine lv_iload hx hb dWI_chooseFixed_20 (lv_at hl 0 rfl) ?_
    refine lv_aload_n hx hb dWI_chooseFixed_22 rfl (lv_at hl 4 rfl) ?_
    refine vp_callSi (W.runV (As := []) (rest := [.int (nI i)]) ⟨hx, hb, hml, hown, hz⟩ (f_GR_cellCount l dC dI g gr gs bg re ce al ed cE cap a mo n ad d (by omega) (by omega) (ha) (hd) (hg)) (cwV 0 hz (z_gV wd_464 wd_376 wd_377 wd_30 wd_378) rfl rfl rfl (by decide +kernel) ⟨Nat.le_of_ble_eq_true rfl, Nat.le_of_ble_eq_true rfl⟩) (zr_preV hK (zt_sub hP [9, 10, 11] rfl) (va_recv (q0 := 9) hK hP (q := (RGR, TGR, 6)) rfl rfl) [4] rfl z_true (fun _ _ _ => trivial)) rfl rfl hl.1 rfl (lv_room (Nat.le_of_ble_eq_true rfl)) dWI_chooseFixed_23 ⟨Nat.le_of_ble_eq_true rfl, Nat.le_of_ble_eq_true rfl⟩) (fun r14 h_r14 => ?_)
    have h_r14 : r14 = nI n := h_r14
    subst h_r14
    have t15 := nI_toInt (n := i) (by omega)
    have t16 := nI_toInt (n := n) (by omega)
    refine lv_icmp_ge (tgt := 102) hx hb dWI_chooseFixed_26 rfl (fun h => by have h := z_le h; omega) (fun _ => ?_)
    refine lv_aload_n hx hb dWI_chooseFixed_29 rfl (lv_at hl 4 rfl) ?_
    refine lv_iload hx hb dWI_chooseFixed_30 (lv_at hl 0 rfl) ?_
    refine va_csr (W.runV (As := [.int (nI i)]) (rest := []) ⟨hx, hb, hml, hown, hz⟩ (f_GR_cellAt l dC dI g gr gs bg re ce al ed cE cap a mo n ad d i (by omega) (by omega) (ha) (hd) (hg) (by omega)) (cwV 1 hz (z_gV wd_465 wd_360 wd_361 wd_30 wd_362) rfl rfl rfl (by decide +kernel) ⟨Nat.le_of_ble_eq_true rfl, Nat.le_of_ble_eq_true rfl⟩) (zr_preV hK (zt_sub hP [9, 10, 11] rfl) (va_recv (q0 := 9) hK hP (q := (RGR, TGR, 6)) rfl rfl) [4] rfl z_true (fun _ _ _ => trivial)) rfl rfl hl.1 rfl (lv_room (Nat.le_of_ble_eq_true rfl)) dWI_chooseFixed_32 ⟨Nat.le_of_ble_eq_true rfl, Nat.le_of_ble_eq_true rfl⟩) (fun rk h_rk => ?_)
    have h_rk : rk = ad i := h_rk
    subst h_rk
    have hRi := hRc i hi
    have hLi := hL i hi
    refine lv_astore hx hb dWI_chooseFixed_35 hl (Nat.le_of_ble_eq_true rfl) rfl (fun ls hl => ?_)
    have hl : lv_has ls 8 [(6, .ref (ad i)), (5, .int (nI i)), (4, .int (nI gv)), (3, .int rm), (2, .int (nI gp)), (1, .ref g), (0, .ref wd)] := hl
    refine lv_aload hx hb dWI_chooseFixed_37 (lv_at hl 0 rfl) ?_
    refine va_get (D := (dC, dI)) (ci := 7) (v := .int (nI (d 1 i))) (C := RCE) (T := TCE) (N := 10) hx hb hz in_CE hown hK hP (12 + i) (zcs_get rfl (by omega)) rfl 1 (by decide) (hz _ wd_257) (fun _ h9 => h9) rfl dWI_chooseFixed_39 ?_
    refine lv_if_ne (tgt := 96) hx hb dWI_chooseFixed_42 rfl (fun h17 => ?_) (fun h17 => ?_)
    · refine lv_iinc (k := 1) (v := nI (i + 1)) hx hb dWI_chooseFixed_96 hl rfl (by rw [show Int32.ofInt 1 = nI 1 from by decide]; exact nI_add _ _) (Nat.le_of_ble_eq_true rfl) rfl (fun ls hl => ?_)
      have hl : lv_has ls 8 [(5, .int (nI (i + 1))), (6, .ref (ad i)), (4, .int (nI gv)), (3, .int rm), (2, .int (nI gp)), (1, .ref g), (0, .ref wd)] := hl
      refine lv_goto (tgt := 20) hx hb dWI_chooseFixed_99 rfl ?_
      exact ih (b_0, b_1, b_2, b_3, gv) ls H locs ⟨lv_sub hl [0, 2, 3, 4, 5, 6] rfl, hxI, hP, hD, hS⟩
    · refine lv_iconst (v := nI 0) hx hb dWI_chooseFixed_45 (by decide) ?_
      refine lv_aload hx hb dWI_chooseFixed_46 (lv_at hl 0 rfl) ?_
      refine va_get (D := (dC, dI)) (ci := 7) (v := .int (nI (d 3 i))) (C := RCE) (T := TCE) (N := 10) hx hb hz in_CE hown hK hP (12 + i) (zcs_get rfl (by omega)) rfl 3 (by decide) (hz _ wd_265) (fun _ h9 => h9) rfl dWI_chooseFixed_48 ?_
      refine lv_iload_n hx hb dWI_chooseFixed_51 rfl (lv_at hl 4 rfl) ?_
      refine lv_aload hx hb dWI_chooseFixed_52 (lv_at hl 0 rfl) ?_
      refine va_get (D := (dC, dI)) (ci := 7) (v := .int (nI (d 2 i))) (C := RCE) (T := TCE) (N := 10) hx hb hz in_CE hown hK hP (12 + i) (zcs_get rfl (by omega)) rfl 2 (by decide) (hz _ wd_261) (fun _ h9 => h9) rfl dWI_chooseFixed_54 ?_
      refine lv_iconst (v := nI 1) hx hb dWI_chooseFixed_57 (by decide) ?_
      refine lv_isub hx hb dWI_chooseFixed_58 ?_
      refine lv_topi (fun y18 _ => ?_)
      refine lv_imul hx hb dWI_chooseFixed_59 ?_
      refine lv_topi (fun y19 _ => ?_)
      refine lv_isub hx hb dWI_chooseFixed_60 ?_
      refine lv_topi (fun y20 _ => ?_)
      refine va_mmax hx hb (hml.trans hl.1.symm) hown (hz _ wd_505) (hz _ wd_190) (hz _ wd_38) (hz _ wd_191) (Nat.le_of_ble_eq_true rfl) (Nat.le_of_ble_eq_true rfl) (Nat.le_of_ble_eq_true rfl) (Nat.le_of_ble_eq_true rfl) dWI_chooseFixed_61 ?_
      refine lv_topi (fun y21 _ => ?_)
      refine lv_istore hx hb dWI_chooseFixed_64 hl (Nat.le_of_ble_eq_true rfl) rfl (fun ls hl => ?_)
      have hl : lv_has ls 8 [(7, .int y21), (6, .ref (ad i)), (5, .int (nI i)), (4, .int (nI gv)), (3, .int rm), (2, .int (nI gp)), (1, .ref g), (0, .ref wd)] := hl
      refine lv_aload_n hx hb dWI_chooseFixed_66 rfl (lv_at hl 7 rfl) ?_
      refine va_get (D := (dC, dI)) (ci := 3) (v := .ref l2) (C := RWI) (T := TWI) (N := 4) hx hb hz in_WI hown hK hP 0 rfl rfl 2 (by decide) (hz _ wd_125) (fun _ h9 => h9) rfl dWI_chooseFixed_67 ?_
      refine lv_iload hx hb dWI_chooseFixed_70 (lv_at hl 0 rfl) ?_
      refine lv_aload_n hx hb dWI_chooseFixed_72 rfl (lv_at hl 7 rfl) ?_
      refine va_get (D := (dC, dI)) (ci := 3) (v := .ref l3) (C := RWI) (T := TWI) (N := 4) hx hb hz in_WI hown hK hP 0 rfl rfl 3 (by decide) (hz _ wd_127) (fun _ h9 => h9) rfl dWI_chooseFixed_73 ?_
      refine lv_aload hx hb dWI_chooseFixed_76 (lv_at hl 1 rfl) ?_
      refine va_get (D := (dC, dI)) (ci := 7) (v := .int (nI (d 0 i))) (C := RCE) (T := TCE) (N := 10) hx hb hz in_CE hown hK hP (12 + i) (zcs_get rfl (by omega)) rfl 0 (by decide) (hz _ wd_252) (fun _ h9 => h9) rfl dWI_chooseFixed_78 ?_
      refine lv_aload hx hb dWI_chooseFixed_81 (lv_at hl 1 rfl) ?_
      refine vp_callSi (W.runV (As := []) (rest := [.int (nI (d 0 i)), .ref l3, .int y21, .ref l2]) ⟨hx, hb, hml, hown, hz⟩ (f_CE_right l dC dI (ad i) (d 0 i) (d 1 i) (d 2 i) (d 3 i) (d 4 i) (d 5 i) (d 6 i) (d 7 i) (d 8 i) (d 9 i) ) (cwV 0 hz (z_gV wd_470 wd_239 wd_240 wd_41 wd_241) rfl rfl rfl (by decide +kernel) ⟨Nat.le_of_ble_eq_true rfl, Nat.le_of_ble_eq_true rfl⟩) (zr_preV hK (zt_one hP (zcs_get rfl (by omega))) (va_recv hK hP (q := (RCE, TCE, 10)) rfl (zcs_get rfl (by omega))) [] rfl z_true (fun _ _ _ => trivial)) rfl rfl hl.1 rfl (lv_room (Nat.le_of_ble_eq_true rfl)) dWI_chooseFixed_83 ⟨Nat.le_of_ble_eq_true rfl, Nat.le_of_ble_eq_true rfl⟩) (fun r22 h_r22 => ?_)
      have h_r22 : r22 = nI ((d 0 i) + (d 2 i)) := h_r22
      subst h_r22
      refine zw_callTv (wr := [zob wd 3 [.ref l0, .ref l1, .ref l2, .ref l3], zob l0 4 [.ref p0], zob l1 4 [.ref p1], zar p0 kp0 12 b_0, zar p1 kp1 12 b_1, zob g 1 [.ref al, .int (nI gr), .int (nI gs), .int (nI bg), .int (nI re), .int (nI ce)], zob al 2 [.ref ed, .int (nI n), .int mo], zrf ed cE cap a]) hK hP hD hS hA [3, 7, 4, 8] [0, 1, 2, 5, 6, 9, 10, 11] rfl rfl (by decide) (by decide) (va_runV (As := [.int y21, .ref l3, .int (nI (d 0 i)), .int (nI ((d 0 i) + (d 2 i)))]) (rest := []) ⟨hx, hb, hml, hown, hz⟩ ((f_LI_shareOut l dC dI (zcs n ad (zcf d)) l2 p2 kp2 b_2 l3 p3 kp3 b_3 y21 (d 0 i) ((d 0 i) + (d 2 i)) (by omega) (by omega)) H.size) (cwV 4 hz (z_gV wd_506 wd_484 wd_485 wd_35 wd_486) rfl rfl rfl (by decide +kernel) ⟨Nat.le_of_ble_eq_true rfl, Nat.le_of_ble_eq_true rfl⟩) (zw_preVT hK hP hD (va_recv (q0 := 3) hK hP (q := (RLI, TLI, 1)) rfl rfl) [3, 7, 4, 8] (by decide) rfl [2, 3] rfl z_true (fun _ _ _ => trivial)) rfl rfl hl.1 rfl (lv_room (Nat.le_of_ble_eq_true rfl)) dWI_chooseFixed_86 ⟨Nat.le_of_ble_eq_true rfl, Nat.le_of_ble_eq_true rfl⟩) (fun u H locs h_r24 hP hD hK hS => ?_)
      obtain ⟨f_23, rfl⟩ : ∃ z, z = u := ⟨_, rfl⟩
      have hP : va_P (dC, dI) vwCl ([zob wd 3 [.ref l0, .ref l1, .ref l2, .ref l3], zob l0 4 [.ref p0], zob l1 4 [.ref p1], zob l2 4 [.ref p2], zob l3 4 [.ref p3], zar p0 kp0 12 b_0, zar p1 kp1 12 b_1, zar p2 kp2 12 f_23, zar p3 kp3 12 b_3, zob g 1 [.ref al, .int (nI gr), .int (nI gs), .int (nI bg), .int (nI re), .int (nI ce)], zob al 2 [.ref ed, .int (nI n), .int mo], zrf ed cE cap a] ++ zcs n ad (zcf d)) H := zt_sub hP [0, 1, 2, 8, 10, 3, 4, 9, 11, 5, 6, 7] rfl
      have hD : va_D A ([zob wd 3 [.ref l0, .ref l1, .ref l2, .ref l3], zob l0 4 [.ref p0], zob l1 4 [.ref p1], zob l2 4 [.ref p2], zob l3 4 [.ref p3], zar p0 kp0 12 b_0, zar p1 kp1 12 b_1, zar p2 kp2 12 f_23, zar p3 kp3 12 b_3, zob g 1 [.ref al, .int (nI gr), .int (nI gs), .int (nI bg), .int (nI re), .int (nI ce)], zob al 2 [.ref ed, .int (nI n), .int mo], zrf ed cE cap a] ++ zcs n ad (zcf d)) := zt_subD hD [0, 1, 2, 8, 10, 3, 4, 9, 11, 5, 6, 7] (by decide) rfl
      have hK : va_K (dC, dI) vwCl [(kp0, .int), (kp1, .int), (kp2, .int), (kp3, .int), (cE, .object "java/lang/Object")] s := hK
      refine lv_aload hx hb dWI_chooseFixed_89 (lv_at hl 1 rfl) ?_
      refine vp_callSi (W.runV (As := []) (rest := []) ⟨hx, hb, hml, hown, hz⟩ (f_CE_right l dC dI (ad i) (d 0 i) (d 1 i) (d 2 i) (d 3 i) (d 4 i) (d 5 i) (d 6 i) (d 7 i) (d 8 i) (d 9 i) ) (cwV 0 hz (z_gV wd_470 wd_239 wd_240 wd_41 wd_241) rfl rfl rfl (by decide +kernel) ⟨Nat.le_of_ble_eq_true rfl, Nat.le_of_ble_eq_true rfl⟩) (zr_preV hK (zt_one hP (zcs_get rfl (by omega))) (va_recv hK hP (q := (RCE, TCE, 10)) rfl (zcs_get rfl (by omega))) [] rfl z_true (fun _ _ _ => trivial)) rfl rfl hl.1 rfl (lv_room (Nat.le_of_ble_eq_true rfl)) dWI_chooseFixed_91 ⟨Nat.le_of_ble_eq_true rfl, Nat.le_of_ble_eq_true rfl⟩) (fun r25 h_r25 => ?_)
      have h_r25 : r25 = nI ((d 0 i) + (d 2 i)) := h_r25
      subst h_r25
      refine lv_istore hx hb dWI_chooseFixed_94 hl (Nat.le_of_ble_eq_true rfl) rfl (fun ls hl => ?_)
      have hl : lv_has ls 8 [(4, .int (nI ((d 0 i) + (d 2 i)))), (7, .int y21), (6, .ref (ad i)), (5, .int (nI i)), (3, .int rm), (2, .int (nI gp)), (1, .ref g), (0, .ref wd)] := hl
      refine lv_iinc (k := 3) (v := nI (i + 1)) hx hb dWI_chooseFixed_96 hl rfl (by rw [show Int32.ofInt 1 = nI 1 from by decide]; exact nI_add _ _) (Nat.le_of_ble_eq_true rfl) rfl (fun ls hl => ?_)
      have hl : lv_has ls 8 [(5, .int (nI (i + 1))), (4, .int (nI ((d 0 i) + (d 2 i)))), (7, .int y21), (6, .ref (ad i)), (3, .int rm), (2, .int (nI gp)), (1, .ref g), (0, .ref wd)] := hl
      refine lv_goto (tgt := 20) hx hb dWI_chooseFixed_99 rfl ?_
      exact ih (b_0, b_1, f_23, b_3, (d 0 i) + (d 2 i)) ls H locs ⟨lv_sub hl [0, 1, 4, 5, 6, 7] rfl, hRi, hP, hD, hS⟩
