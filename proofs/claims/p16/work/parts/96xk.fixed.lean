set_option maxHeartbeats 4000000 in
set_option maxRecDepth 100000 in
theorem x_LI_shareOutE (l : Launch) (dC : Nat → ClassId) (dI : Nat → Nat → Nat) (T : va_W) (a : Nat) (qa : Nat) (ka : ClassId) (f : Nat → Nat) (b : Nat) (qb : Nat) (kb : ClassId) (gb : Nat → Int32) (fb : Nat → Nat) (am : Nat) (i0 : Nat) (e0 : Nat) (he0 : e0 ≤ 12) (hee : e0 = i0) : zw_Mv (S := Unit) l yLI_shareOut wLI_shareOut ({ frames := 1, cells := 0, slots := 0, locals := 24 }) [.ref a, .int (nI am), .ref b, .int (nI i0), .int (nI e0)] (dC, dI) vwCl ([zob a 4 [.ref qa], zar qa ka 12 (fun j => nI (f j)), zob b 4 [.ref qb], zar qb kb 12 gb] ++ T) [(ka, .int), (kb, .int)] (fun _ _ => True) (fun (_ : Unit) => True) (fun (_ : Unit) => ([zob a 4 [.ref qa], zar qa ka 12 (fun j => nI (f j)), zob b 4 [.ref qb], zar qb kb 12 gb] ++ T)) (fun (_ : Unit) => []) 0 0 := by
  refine zw_headv (cc := cLI_shareOut) (maxL := 12) (ret := none) (by decide +kernel) rfl (Nat.le_of_ble_eq_true rfl) ?_
  intro p e s m below meth c ls A F hnm hA hP hK hD hS hX hl
  obtain ⟨hx, hb, hml, hr, hlocks, hown, hts⟩ := F
  have hown : s.vm.findClass "SpannedCells$Lines" = some m.cls := hown
  have hz : ∀ w9 ∈ zT, w9.before [.ref a, .int (nI am), .ref b, .int (nI i0), .int (nI e0)].toArray s = true := fun w9 h => hts w9 (List.mem_cons_of_mem _ h)
  have hl : lv_has ls 12 [(0, .ref a), (1, .int (nI am)), (2, .ref b), (3, .int (nI i0)), (4, .int (nI e0))] := hl
  refine z_q (fun Q hQ => ?_)
  have h_z : zRs fb i0 e0 = 0 := zRs_0 (by omega)
  refine lv_aload_n hx hb dLI_shareOut_0 rfl (lv_at hl 2 rfl) ?_
  refine lv_iload_n hx hb dLI_shareOut_1 rfl (lv_at hl 3 rfl) ?_
  refine lv_iload hx hb dLI_shareOut_2 (lv_at hl 4 rfl) ?_
  refine vp_callSi (W.runV (As := [.int (nI i0), .int (nI e0)]) (rest := []) ⟨hx, hb, hml, hown, hz⟩ (x_LI_sum l dC dI b qb kb gb fb i0 e0 (by omega) (by omega) (fun j h1 h2 => absurd h2 (by omega))) (cwV 2 hz (z_gV wd_479 wd_480 wd_481 wd_35 wd_482) rfl rfl rfl (by decide +kernel) ⟨Nat.le_of_ble_eq_true rfl, Nat.le_of_ble_eq_true rfl⟩) (zr_preV hK (hP.sub [2, 3] rfl) (va_recv (q0 := 2) hK hP (q := (RLI, TLI, 1)) rfl rfl) [1] rfl z_true (fun _ _ _ => trivial)) rfl rfl hl.1 rfl (lv_room (Nat.le_of_ble_eq_true rfl)) dLI_shareOut_4 ⟨Nat.le_of_ble_eq_true rfl, Nat.le_of_ble_eq_true rfl⟩) (fun r1 h_r1 => ?_)
  have h_r1 : r1 = nI (zRs fb i0 e0) := h_r1
  subst h_r1
  refine lv_istore hx hb dLI_shareOut_7 hl (Nat.le_of_ble_eq_true rfl) rfl (fun ls hl => ?_)
  have hl : lv_has ls 12 [(5, .int (nI (zRs fb i0 e0))), (0, .ref a), (1, .int (nI am)), (2, .ref b), (3, .int (nI i0)), (4, .int (nI e0))] := hl
  refine lv_iload hx hb dLI_shareOut_9 (lv_at hl 0 rfl) ?_
  have t2 := nI_toInt (n := zRs fb i0 e0) (by omega)
  have t3 : (0 : Int32).toInt = 0 := by decide
  refine lv_if_ne (tgt := 18) hx hb dLI_shareOut_11 rfl (fun h => by have h := z_ne h; omega) (fun _ => ?_)
  refine lv_iconst (v := nI 1) hx hb dLI_shareOut_14 (by decide) ?_
  refine lv_goto (tgt := 19) hx hb dLI_shareOut_15 rfl ?_
  refine lv_istore hx hb dLI_shareOut_19 hl (Nat.le_of_ble_eq_true rfl) rfl (fun ls hl => ?_)
  have hl : lv_has ls 12 [(6, .int (nI 1)), (5, .int (nI (zRs fb i0 e0))), (0, .ref a), (1, .int (nI am)), (2, .ref b), (3, .int (nI i0)), (4, .int (nI e0))] := hl
  refine lv_iload hx hb dLI_shareOut_21 (lv_at hl 0 rfl) ?_
  refine lv_if_eq (tgt := 33) hx hb dLI_shareOut_23 rfl (fun h => absurd h (by decide)) (fun _ => ?_)
  refine lv_iload hx hb dLI_shareOut_26 (lv_at hl 6 rfl) ?_
  refine lv_iload_n hx hb dLI_shareOut_28 rfl (lv_at hl 5 rfl) ?_
  refine lv_isub hx hb dLI_shareOut_29 ?_
  refine lv_topi (fun x4 e5 => ?_)
  have e5 : x4 = nI (e0 - i0) := e5.trans (pk_sub (by omega))
  subst e5
  refine lv_goto (tgt := 35) hx hb dLI_shareOut_30 rfl ?_
  refine lv_istore hx hb dLI_shareOut_35 hl (Nat.le_of_ble_eq_true rfl) rfl (fun ls hl => ?_)
  have hl : lv_has ls 12 [(7, .int (nI (e0 - i0))), (6, .int (nI 1)), (5, .int (nI (zRs fb i0 e0))), (0, .ref a), (1, .int (nI am)), (2, .ref b), (3, .int (nI i0)), (4, .int (nI e0))] := hl
  refine lv_iload hx hb dLI_shareOut_37 (lv_at hl 0 rfl) ?_
  have t6 := nI_toInt (n := e0 - i0) (by omega)
  have t7 : (0 : Int32).toInt = 0 := by decide
  refine lv_if_gt (tgt := 43) hx hb dLI_shareOut_39 rfl (fun h => by have h := z_lt h; omega) (fun _ => ?_)
  subst hQ
  exact zw_vret (D := (dC, dI)) (cl := vwCl) (A := A) () hx hb hr hlocks (trivial) (zt_sub hP [0, 1, 2, 3] rfl) (hK.sub [] rfl) (zt_subD hD [0, 1, 2, 3] (by decide) rfl) hS dLI_shareOut_42

set_option maxHeartbeats 4000000 in
set_option maxRecDepth 100000 in
theorem x_WI_chooseFixed (l : Launch) (dC : Nat → ClassId) (dI : Nat → Nat → Nat) (wd : Nat) (l0 : Nat) (l1 : Nat) (l2 : Nat) (l3 : Nat) (p0 : Nat) (p1 : Nat) (p2 : Nat) (p3 : Nat) (kp0 : ClassId) (kp1 : ClassId) (kp2 : ClassId) (kp3 : ClassId) (g0 : Nat → Int32) (g1 : Nat → Int32) (g2 : Nat → Int32) (g3 : Nat → Int32) (g : Nat) (gr : Nat) (gs : Nat) (bg : Nat) (re : Nat) (ce : Nat) (al : Nat) (ed : Nat) (cE : ClassId) (cap : Nat) (a : Nat → Option Nat) (mo : Int32) (n : Nat) (ad : Nat → Nat) (d : Nat → Nat → Nat) (gp : Nat) (rm : Nat) (hn : n ≤ cap) (hc : cap < 2147483648) (ha : ∀ k, k < n → a k = some (ad k)) (hd : ∀ j k, k < n → d j k ≤ 1000) (hg : gr ≤ 1000 ∧ gs ≤ 1000 ∧ bg ≤ 1000 ∧ re ≤ 1000 ∧ ce ≤ 1000) (hL : ∀ k, k < n → d 0 k + d 2 k ≤ 12) (hRc : ∀ k, k < n → d 0 k + d 2 k ≤ ce) (h12 : ce ≤ 12) (h21 : ∀ k, k < n → 1 ≤ d 2 k) (htile : zTile (d 1) (d 0) (d 2) n) (hgp : gp ≤ 1000) (hrm : rm ≤ 10000) : zw_Mv (S := (Nat → Nat)) l yWI_chooseFixed wWI_chooseFixed ({ frames := 4, cells := 0, slots := 0, locals := 85 }) [.ref wd, .ref g, .int (nI gp), .int (nI rm)] (dC, dI) vwCl ([zob wd 3 [.ref l0, .ref l1, .ref l2, .ref l3], zob l0 4 [.ref p0], zob l1 4 [.ref p1], zob l2 4 [.ref p2], zob l3 4 [.ref p3], zar p0 kp0 12 g0, zar p1 kp1 12 g1, zar p2 kp2 12 g2, zar p3 kp3 12 g3, zob g 1 [.ref al, .int (nI gr), .int (nI gs), .int (nI bg), .int (nI re), .int (nI ce)], zob al 2 [.ref ed, .int (nI n), .int mo], zrf ed cE cap a] ++ zcs n ad (zcf d)) [(kp0, .int), (kp1, .int), (kp2, .int), (kp3, .int), (cE, .object "java/lang/Object")] (fun _ _ => True) (fun (u2 : Nat → Nat) => u2 = zFw (d 3) (d 1) (d 0) (d 2) gp n ce rm) (fun (u2 : Nat → Nat) => ([zob wd 3 [.ref l0, .ref l1, .ref l2, .ref l3], zob l0 4 [.ref p0], zob l1 4 [.ref p1], zob l2 4 [.ref p2], zob l3 4 [.ref p3], zar p0 kp0 12 g0, zar p1 kp1 12 g1, zar p2 kp2 12 (fun j => nI (u2 j)), zar p3 kp3 12 (fun j => nI (zO j)), zob g 1 [.ref al, .int (nI gr), .int (nI gs), .int (nI bg), .int (nI re), .int (nI ce)], zob al 2 [.ref ed, .int (nI n), .int mo], zrf ed cE cap a] ++ zcs n ad (zcf d))) (fun (u2 : Nat → Nat) => []) 0 0 := by
  refine zw_headv (cc := cWI_chooseFixed) (maxL := 8) (ret := none) (by decide +kernel) rfl (Nat.le_of_ble_eq_true rfl) ?_
  intro p e s m below meth c ls A F hnm hA hP hK hD hS hX hl
  obtain ⟨hx, hb, hml, hr, hlocks, hown, hts⟩ := F
  have hown : s.vm.findClass "SpannedCells$Widths" = some m.cls := hown
  have hz : ∀ w9 ∈ zT, w9.before [.ref wd, .ref g, .int (nI gp), .int (nI rm)].toArray s = true := fun w9 h => hts w9 (List.mem_cons_of_mem _ h)
  have hl : lv_has ls 8 [(0, .ref wd), (1, .ref g), (2, .int (nI gp)), (3, .int (nI rm))] := hl
  refine z_q (fun Q hQ => ?_)
  refine lv_aload_n hx hb dWI_chooseFixed_0 rfl (lv_at hl 0 rfl) ?_
  refine va_get (D := (dC, dI)) (ci := 3) (v := .ref l2) (C := RWI) (T := TWI) (N := 4) hx hb hz in_WI hown hK hP 0 rfl rfl 2 (by decide) (hz _ wd_125) (fun _ h9 => h9) rfl dWI_chooseFixed_1 ?_
  refine zw_callTv (wr := [zob wd 3 [.ref l0, .ref l1, .ref l2, .ref l3], zob l0 4 [.ref p0], zob l1 4 [.ref p1], zob l3 4 [.ref p3], zar p0 kp0 12 g0, zar p1 kp1 12 g1, zar p3 kp3 12 g3, zob g 1 [.ref al, .int (nI gr), .int (nI gs), .int (nI bg), .int (nI re), .int (nI ce)], zob al 2 [.ref ed, .int (nI n), .int mo], zrf ed cE cap a]) hK hP hD hS hA [3, 7] [0, 1, 2, 4, 5, 6, 8, 9, 10, 11] rfl rfl (by decide) (by decide) (va_runV (As := []) (rest := []) ⟨hx, hb, hml, hown, hz⟩ ((x_LI_reset l dC dI (zcs n ad (zcf d)) l2 p2 kp2 g2 ) s.heap.size) (cwV 0 hz (z_gV wd_457 wd_458 wd_459 wd_35 wd_460) rfl rfl rfl (by decide +kernel) ⟨Nat.le_of_ble_eq_true rfl, Nat.le_of_ble_eq_true rfl⟩) (zw_preVT hK hP hD (va_recv (q0 := 3) hK hP (q := (RLI, TLI, 1)) rfl rfl) [3, 7] (by decide) rfl [2] rfl z_true (fun _ _ _ => trivial)) rfl rfl hl.1 rfl (lv_room (Nat.le_of_ble_eq_true rfl)) dWI_chooseFixed_4 ⟨Nat.le_of_ble_eq_true rfl, Nat.le_of_ble_eq_true rfl⟩) (fun u H locs h_r1 hP hD hK hS => ?_)
  have hP : va_P (dC, dI) vwCl ([zob wd 3 [.ref l0, .ref l1, .ref l2, .ref l3], zob l0 4 [.ref p0], zob l1 4 [.ref p1], zob l2 4 [.ref p2], zob l3 4 [.ref p3], zar p0 kp0 12 g0, zar p1 kp1 12 g1, zar p2 kp2 12 (fun j => nI (zO j)), zar p3 kp3 12 g3, zob g 1 [.ref al, .int (nI gr), .int (nI gs), .int (nI bg), .int (nI re), .int (nI ce)], zob al 2 [.ref ed, .int (nI n), .int mo], zrf ed cE cap a] ++ zcs n ad (zcf d)) H := zt_sub hP [0, 1, 2, 10, 3, 4, 5, 11, 6, 7, 8, 9] rfl
  have hD : va_D A ([zob wd 3 [.ref l0, .ref l1, .ref l2, .ref l3], zob l0 4 [.ref p0], zob l1 4 [.ref p1], zob l2 4 [.ref p2], zob l3 4 [.ref p3], zar p0 kp0 12 g0, zar p1 kp1 12 g1, zar p2 kp2 12 (fun j => nI (zO j)), zar p3 kp3 12 g3, zob g 1 [.ref al, .int (nI gr), .int (nI gs), .int (nI bg), .int (nI re), .int (nI ce)], zob al 2 [.ref ed, .int (nI n), .int mo], zrf ed cE cap a] ++ zcs n ad (zcf d)) := zt_subD hD [0, 1, 2, 10, 3, 4, 5, 11, 6, 7, 8, 9] (by decide) rfl
  have hK : va_K (dC, dI) vwCl [(kp0, .int), (kp1, .int), (kp2, .int), (kp3, .int), (cE, .object "java/lang/Object")] s := hK
  refine lv_aload_n hx hb dWI_chooseFixed_7 rfl (lv_at hl 0 rfl) ?_
  refine va_get (D := (dC, dI)) (ci := 3) (v := .ref l3) (C := RWI) (T := TWI) (N := 4) hx hb hz in_WI hown hK hP 0 rfl rfl 3 (by decide) (hz _ wd_127) (fun _ h9 => h9) rfl dWI_chooseFixed_8 ?_
  refine zw_callTv (wr := [zob wd 3 [.ref l0, .ref l1, .ref l2, .ref l3], zob l0 4 [.ref p0], zob l1 4 [.ref p1], zob l2 4 [.ref p2], zar p0 kp0 12 g0, zar p1 kp1 12 g1, zar p2 kp2 12 (fun j => nI (zO j)), zob g 1 [.ref al, .int (nI gr), .int (nI gs), .int (nI bg), .int (nI re), .int (nI ce)], zob al 2 [.ref ed, .int (nI n), .int mo], zrf ed cE cap a]) hK hP hD hS hA [4, 8] [0, 1, 2, 3, 5, 6, 7, 9, 10, 11] rfl rfl (by decide) (by decide) (va_runV (As := []) (rest := []) ⟨hx, hb, hml, hown, hz⟩ ((x_LI_reset l dC dI (zcs n ad (zcf d)) l3 p3 kp3 g3 ) H.size) (cwV 0 hz (z_gV wd_457 wd_458 wd_459 wd_35 wd_460) rfl rfl rfl (by decide +kernel) ⟨Nat.le_of_ble_eq_true rfl, Nat.le_of_ble_eq_true rfl⟩) (zw_preVT hK hP hD (va_recv (q0 := 4) hK hP (q := (RLI, TLI, 1)) rfl rfl) [4, 8] (by decide) rfl [3] rfl z_true (fun _ _ _ => trivial)) rfl rfl hl.1 rfl (lv_room (Nat.le_of_ble_eq_true rfl)) dWI_chooseFixed_11 ⟨Nat.le_of_ble_eq_true rfl, Nat.le_of_ble_eq_true rfl⟩) (fun u H locs h_r2 hP hD hK hS => ?_)
  have hP : va_P (dC, dI) vwCl ([zob wd 3 [.ref l0, .ref l1, .ref l2, .ref l3], zob l0 4 [.ref p0], zob l1 4 [.ref p1], zob l2 4 [.ref p2], zob l3 4 [.ref p3], zar p0 kp0 12 g0, zar p1 kp1 12 g1, zar p2 kp2 12 (fun j => nI (zO j)), zar p3 kp3 12 (fun j => nI (zO j)), zob g 1 [.ref al, .int (nI gr), .int (nI gs), .int (nI bg), .int (nI re), .int (nI ce)], zob al 2 [.ref ed, .int (nI n), .int mo], zrf ed cE cap a] ++ zcs n ad (zcf d)) H := zt_sub hP [0, 1, 2, 3, 10, 4, 5, 6, 11, 7, 8, 9] rfl
  have hD : va_D A ([zob wd 3 [.ref l0, .ref l1, .ref l2, .ref l3], zob l0 4 [.ref p0], zob l1 4 [.ref p1], zob l2 4 [.ref p2], zob l3 4 [.ref p3], zar p0 kp0 12 g0, zar p1 kp1 12 g1, zar p2 kp2 12 (fun j => nI (zO j)), zar p3 kp3 12 (fun j => nI (zO j)), zob g 1 [.ref al, .int (nI gr), .int (nI gs), .int (nI bg), .int (nI re), .int (nI ce)], zob al 2 [.ref ed, .int (nI n), .int mo], zrf ed cE cap a] ++ zcs n ad (zcf d)) := zt_subD hD [0, 1, 2, 3, 10, 4, 5, 6, 11, 7, 8, 9] (by decide) rfl
  have hK : va_K (dC, dI) vwCl [(kp0, .int), (kp1, .int), (kp2, .int), (kp3, .int), (cE, .object "java/lang/Object")] s := hK
  refine lv_iconst (v := nI 0) hx hb dWI_chooseFixed_14 (by decide) ?_
  refine lv_istore hx hb dWI_chooseFixed_15 hl (Nat.le_of_ble_eq_true rfl) rfl (fun ls hl => ?_)
  have hl : lv_has ls 8 [(4, .int (nI 0)), (0, .ref wd), (1, .ref g), (2, .int (nI gp)), (3, .int (nI rm))] := hl
  refine lv_iconst (v := nI 0) hx hb dWI_chooseFixed_17 (by decide) ?_
  refine lv_istore hx hb dWI_chooseFixed_18 hl (Nat.le_of_ble_eq_true rfl) rfl (fun ls hl => ?_)
  have hl : lv_has ls 8 [(5, .int (nI 0)), (4, .int (nI 0)), (0, .ref wd), (1, .ref g), (2, .int (nI gp)), (3, .int (nI rm))] := hl
  refine zl_upW (σ := (Nat → Nat) × (Nat)) n (fun i x9 ls H locs => match x9 with | (C, gv) => lv_has ls 8 [(5, .int (nI i)), (4, .int (nI gv)), (3, .int (nI rm)), (2, .int (nI gp)), (1, .ref g), (0, .ref wd)] ∧ (C = zFx (d 3) (d 1) (d 0) (d 2) gp i ∧ gv = zGv (d 1) (d 0) (d 2) i) ∧ va_P (dC, dI) vwCl ([zob wd 3 [.ref l0, .ref l1, .ref l2, .ref l3], zob l0 4 [.ref p0], zob l1 4 [.ref p1], zob l2 4 [.ref p2], zob l3 4 [.ref p3], zar p0 kp0 12 g0, zar p1 kp1 12 g1, zar p2 kp2 12 (fun j => nI (C j)), zar p3 kp3 12 (fun j => nI (zO j)), zob g 1 [.ref al, .int (nI gr), .int (nI gs), .int (nI bg), .int (nI re), .int (nI ce)], zob al 2 [.ref ed, .int (nI n), .int mo], zrf ed cE cap a] ++ zcs n ad (zcf d)) H ∧ va_D A ([zob wd 3 [.ref l0, .ref l1, .ref l2, .ref l3], zob l0 4 [.ref p0], zob l1 4 [.ref p1], zob l2 4 [.ref p2], zob l3 4 [.ref p3], zar p0 kp0 12 g0, zar p1 kp1 12 g1, zar p2 kp2 12 (fun j => nI (C j)), zar p3 kp3 12 (fun j => nI (zO j)), zob g 1 [.ref al, .int (nI gr), .int (nI gs), .int (nI bg), .int (nI re), .int (nI ce)], zob al 2 [.ref ed, .int (nI n), .int mo], zrf ed cE cap a] ++ zcs n ad (zcf d)) ∧ va_S A s.heap H locs) ?_ ?_ 0 (Nat.zero_le _) (zO, 0) ls H locs ⟨lv_sub hl [0, 1, 5, 4, 3, 2] rfl, ⟨rfl, rfl⟩, hP, hD, hS⟩
  · intro x9 ls H locs hI
    obtain ⟨C, gv⟩ := x9
    obtain ⟨hl, hxI, hP, hD, hS⟩ := hI
    have hl : lv_has ls 8 [(5, .int (nI n)), (4, .int (nI gv)), (3, .int (nI rm)), (2, .int (nI gp)), (1, .ref g), (0, .ref wd)] := hl
    have hP : va_P (dC, dI) vwCl ([zob wd 3 [.ref l0, .ref l1, .ref l2, .ref l3], zob l0 4 [.ref p0], zob l1 4 [.ref p1], zob l2 4 [.ref p2], zob l3 4 [.ref p3], zar p0 kp0 12 g0, zar p1 kp1 12 g1, zar p2 kp2 12 (fun j => nI (C j)), zar p3 kp3 12 (fun j => nI (zO j)), zob g 1 [.ref al, .int (nI gr), .int (nI gs), .int (nI bg), .int (nI re), .int (nI ce)], zob al 2 [.ref ed, .int (nI n), .int mo], zrf ed cE cap a] ++ zcs n ad (zcf d)) H := hP
    have hD : va_D A ([zob wd 3 [.ref l0, .ref l1, .ref l2, .ref l3], zob l0 4 [.ref p0], zob l1 4 [.ref p1], zob l2 4 [.ref p2], zob l3 4 [.ref p3], zar p0 kp0 12 g0, zar p1 kp1 12 g1, zar p2 kp2 12 (fun j => nI (C j)), zar p3 kp3 12 (fun j => nI (zO j)), zob g 1 [.ref al, .int (nI gr), .int (nI gs), .int (nI bg), .int (nI re), .int (nI ce)], zob al 2 [.ref ed, .int (nI n), .int mo], zrf ed cE cap a] ++ zcs n ad (zcf d)) := hD
    refine lv_iload hx hb dWI_chooseFixed_20 (lv_at hl 0 rfl) ?_
    refine lv_aload_n hx hb dWI_chooseFixed_22 rfl (lv_at hl 4 rfl) ?_
    refine vp_callSi (W.runV (As := []) (rest := [.int (nI n)]) ⟨hx, hb, hml, hown, hz⟩ (f_GR_cellCount l dC dI g gr gs bg re ce al ed cE cap a mo n ad d (by omega) (by omega) (ha) (hd) (hg)) (cwV 0 hz (z_gV wd_464 wd_376 wd_377 wd_30 wd_378) rfl rfl rfl (by decide +kernel) ⟨Nat.le_of_ble_eq_true rfl, Nat.le_of_ble_eq_true rfl⟩) (zr_preV hK (zt_sub hP [9, 10, 11] rfl) (va_recv (q0 := 9) hK hP (q := (RGR, TGR, 6)) rfl rfl) [4] rfl z_true (fun _ _ _ => trivial)) rfl rfl hl.1 rfl (lv_room (Nat.le_of_ble_eq_true rfl)) dWI_chooseFixed_23 ⟨Nat.le_of_ble_eq_true rfl, Nat.le_of_ble_eq_true rfl⟩) (fun r3 h_r3 => ?_)
    have h_r3 : r3 = nI n := h_r3
    subst h_r3
    have t4 := nI_toInt (n := n) (by omega)
    have t5 := nI_toInt (n := n) (by omega)
    refine lv_icmp_ge (tgt := 102) hx hb dWI_chooseFixed_26 rfl (fun _ => ?_) (fun h => by have h := z_nle h; omega)
    have hbb := zFx_0 (gp := gp) htile (fun k hk => ⟨hd 3 k hk, h21 k hk⟩) n (by omega)
    have hCb : ∀ q, C q ≤ 20000 := by rw [hxI.1]; exact fun q => Nat.le_trans (hbb.2 q) (by omega)
    have hgv : gv ≤ ce := by rw [hxI.2]; exact zGv_le n hRc
    have hS9 := zRs_12 (f := C) (i0 := 0) (e := gv) hCb (by omega)
    refine lv_iconst (v := nI 0) hx hb dWI_chooseFixed_102 (by decide) ?_
    refine lv_iload_n hx hb dWI_chooseFixed_103 rfl (lv_at hl 2 rfl) ?_
    refine lv_aload_n hx hb dWI_chooseFixed_104 rfl (lv_at hl 5 rfl) ?_
    refine va_get (D := (dC, dI)) (ci := 3) (v := .ref l2) (C := RWI) (T := TWI) (N := 4) hx hb hz in_WI hown hK hP 0 rfl rfl 2 (by decide) (hz _ wd_125) (fun _ h9 => h9) rfl dWI_chooseFixed_105 ?_
    refine lv_iconst (v := nI 0) hx hb dWI_chooseFixed_108 (by decide) ?_
    refine lv_iload hx hb dWI_chooseFixed_109 (lv_at hl 1 rfl) ?_
    refine vp_callSi (W.runV (As := [.int (nI 0), .int (nI gv)]) (rest := [.int (nI rm), .int (nI 0)]) ⟨hx, hb, hml, hown, hz⟩ (x_LI_sum l dC dI l2 p2 kp2 (fun j => nI (C j)) C 0 gv (by omega) (by omega) (fun _ _ _ => rfl)) (cwV 2 hz (z_gV wd_507 wd_480 wd_481 wd_35 wd_482) rfl rfl rfl (by decide +kernel) ⟨Nat.le_of_ble_eq_true rfl, Nat.le_of_ble_eq_true rfl⟩) (zr_preV hK (hP.sub [3, 7] rfl) (va_recv (q0 := 3) hK hP (q := (RLI, TLI, 1)) rfl rfl) [2] rfl z_true (fun _ _ _ => trivial)) rfl rfl hl.1 rfl (lv_room (Nat.le_of_ble_eq_true rfl)) dWI_chooseFixed_111 ⟨Nat.le_of_ble_eq_true rfl, Nat.le_of_ble_eq_true rfl⟩) (fun r6 h_r6 => ?_)
    have h_r6 : r6 = nI (zRs C 0 gv) := h_r6
    subst h_r6
    refine lv_isub hx hb dWI_chooseFixed_114 ?_
    refine va_mmax hx hb (hml.trans hl.1.symm) hown (hz _ wd_505) (hz _ wd_190) (hz _ wd_38) (hz _ wd_191) (Nat.le_of_ble_eq_true rfl) (Nat.le_of_ble_eq_true rfl) (Nat.le_of_ble_eq_true rfl) (Nat.le_of_ble_eq_true rfl) dWI_chooseFixed_115 ?_
    refine lv_topi (fun x7 e8 => ?_)
    have e8 : x7 = nI (rm - zRs C 0 gv) := e8.trans (z_max0 (by omega) (by omega))
    subst e8
    refine lv_istore hx hb dWI_chooseFixed_118 hl (Nat.le_of_ble_eq_true rfl) rfl (fun ls hl => ?_)
    have hl : lv_has ls 8 [(5, .int (nI (rm - zRs C 0 gv))), (4, .int (nI gv)), (3, .int (nI rm)), (2, .int (nI gp)), (1, .ref g), (0, .ref wd)] := hl
    rcases Nat.lt_or_ge gv ce with h_g | h_g
    · refine lv_aload_n hx hb dWI_chooseFixed_120 rfl (lv_at hl 5 rfl) ?_
      refine va_get (D := (dC, dI)) (ci := 3) (v := .ref l2) (C := RWI) (T := TWI) (N := 4) hx hb hz in_WI hown hK hP 0 rfl rfl 2 (by decide) (hz _ wd_125) (fun _ h9 => h9) rfl dWI_chooseFixed_121 ?_
      refine lv_iload hx hb dWI_chooseFixed_124 (lv_at hl 0 rfl) ?_
      refine lv_aload_n hx hb dWI_chooseFixed_126 rfl (lv_at hl 5 rfl) ?_
      refine va_get (D := (dC, dI)) (ci := 3) (v := .ref l3) (C := RWI) (T := TWI) (N := 4) hx hb hz in_WI hown hK hP 0 rfl rfl 3 (by decide) (hz _ wd_127) (fun _ h9 => h9) rfl dWI_chooseFixed_127 ?_
      refine lv_iload hx hb dWI_chooseFixed_130 (lv_at hl 1 rfl) ?_
      refine lv_aload_n hx hb dWI_chooseFixed_132 rfl (lv_at hl 4 rfl) ?_
      refine vp_callSi (W.runV (As := []) (rest := [.int (nI gv), .ref l3, .int (nI (rm - zRs C 0 gv)), .ref l2]) ⟨hx, hb, hml, hown, hz⟩ (f_GR_columnCount l dC dI g gr gs bg re ce al ed cE cap a mo n ad d (by omega) (by omega) (ha) (hd) (hg)) (cwV 0 hz (z_gV wd_508 wd_392 wd_393 wd_30 wd_394) rfl rfl rfl (by decide +kernel) ⟨Nat.le_of_ble_eq_true rfl, Nat.le_of_ble_eq_true rfl⟩) (zr_preV hK (zt_sub hP [9, 10, 11] rfl) (va_recv (q0 := 9) hK hP (q := (RGR, TGR, 6)) rfl rfl) [4] rfl z_true (fun _ _ _ => trivial)) rfl rfl hl.1 rfl (lv_room (Nat.le_of_ble_eq_true rfl)) dWI_chooseFixed_133 ⟨Nat.le_of_ble_eq_true rfl, Nat.le_of_ble_eq_true rfl⟩) (fun r9 h_r9 => ?_)
      have h_r9 : r9 = nI ce := h_r9
      subst h_r9
      refine zw_callTv (wr := [zob wd 3 [.ref l0, .ref l1, .ref l2, .ref l3], zob l0 4 [.ref p0], zob l1 4 [.ref p1], zar p0 kp0 12 g0, zar p1 kp1 12 g1, zob g 1 [.ref al, .int (nI gr), .int (nI gs), .int (nI bg), .int (nI re), .int (nI ce)], zob al 2 [.ref ed, .int (nI n), .int mo], zrf ed cE cap a]) hK hP hD hS hA [3, 7, 4, 8] [0, 1, 2, 5, 6, 9, 10, 11] rfl rfl (by decide) (by decide) (va_runV (As := [.int (nI (rm - zRs C 0 gv)), .ref l3, .int (nI gv), .int (nI ce)]) (rest := []) ⟨hx, hb, hml, hown, hz⟩ ((x_LI_shareOut l dC dI (zcs n ad (zcf d)) l2 p2 kp2 C l3 p3 kp3 (fun j => nI (zO j)) zO (rm - zRs C 0 gv) gv ce (by omega) (by omega) (by omega) (hCb) (zO_le) (fun _ _ _ => rfl) (by omega)) H.size) (cwV 4 hz (z_gV wd_506 wd_484 wd_485 wd_35 wd_486) rfl rfl rfl (by decide +kernel) ⟨Nat.le_of_ble_eq_true rfl, Nat.le_of_ble_eq_true rfl⟩) (zw_preVT hK hP hD (va_recv (q0 := 3) hK hP (q := (RLI, TLI, 1)) rfl rfl) [3, 7, 4, 8] (by decide) rfl [2, 3] rfl z_true (fun _ _ _ => trivial)) rfl rfl hl.1 rfl (lv_room (Nat.le_of_ble_eq_true rfl)) dWI_chooseFixed_136 ⟨Nat.le_of_ble_eq_true rfl, Nat.le_of_ble_eq_true rfl⟩) (fun u H locs h_sh hP hD hK hS => ?_)
      obtain ⟨C_2, rfl⟩ : ∃ z, z = u := ⟨_, rfl⟩
      have hP : va_P (dC, dI) vwCl ([zob wd 3 [.ref l0, .ref l1, .ref l2, .ref l3], zob l0 4 [.ref p0], zob l1 4 [.ref p1], zob l2 4 [.ref p2], zob l3 4 [.ref p3], zar p0 kp0 12 g0, zar p1 kp1 12 g1, zar p2 kp2 12 (fun j => nI (C_2 j)), zar p3 kp3 12 (fun j => nI (zO j)), zob g 1 [.ref al, .int (nI gr), .int (nI gs), .int (nI bg), .int (nI re), .int (nI ce)], zob al 2 [.ref ed, .int (nI n), .int mo], zrf ed cE cap a] ++ zcs n ad (zcf d)) H := zt_sub hP [0, 1, 2, 8, 10, 3, 4, 9, 11, 5, 6, 7] rfl
      have hD : va_D A ([zob wd 3 [.ref l0, .ref l1, .ref l2, .ref l3], zob l0 4 [.ref p0], zob l1 4 [.ref p1], zob l2 4 [.ref p2], zob l3 4 [.ref p3], zar p0 kp0 12 g0, zar p1 kp1 12 g1, zar p2 kp2 12 (fun j => nI (C_2 j)), zar p3 kp3 12 (fun j => nI (zO j)), zob g 1 [.ref al, .int (nI gr), .int (nI gs), .int (nI bg), .int (nI re), .int (nI ce)], zob al 2 [.ref ed, .int (nI n), .int mo], zrf ed cE cap a] ++ zcs n ad (zcf d)) := zt_subD hD [0, 1, 2, 8, 10, 3, 4, 9, 11, 5, 6, 7] (by decide) rfl
      have hK : va_K (dC, dI) vwCl [(kp0, .int), (kp1, .int), (kp2, .int), (kp3, .int), (cE, .object "java/lang/Object")] s := hK
      have h_sh : C_2 = zShr C zO (rm - zRs C 0 gv) gv ce := h_sh
      subst hQ
      exact zw_vret (D := (dC, dI)) (cl := vwCl) (A := A) C_2 hx hb hr hlocks (by rw [h_sh, hxI.1, hxI.2]; rfl) (zt_sub hP [0, 1, 2, 3, 4, 5, 6, 7, 8, 9, 10, 11] rfl) (hK.sub [] rfl) (zt_subD hD [0, 1, 2, 3, 4, 5, 6, 7, 8, 9, 10, 11] (by decide) rfl) hS dWI_chooseFixed_139
    · refine lv_aload_n hx hb dWI_chooseFixed_120 rfl (lv_at hl 5 rfl) ?_
      refine va_get (D := (dC, dI)) (ci := 3) (v := .ref l2) (C := RWI) (T := TWI) (N := 4) hx hb hz in_WI hown hK hP 0 rfl rfl 2 (by decide) (hz _ wd_125) (fun _ h9 => h9) rfl dWI_chooseFixed_121 ?_
      refine lv_iload hx hb dWI_chooseFixed_124 (lv_at hl 0 rfl) ?_
      refine lv_aload_n hx hb dWI_chooseFixed_126 rfl (lv_at hl 5 rfl) ?_
      refine va_get (D := (dC, dI)) (ci := 3) (v := .ref l3) (C := RWI) (T := TWI) (N := 4) hx hb hz in_WI hown hK hP 0 rfl rfl 3 (by decide) (hz _ wd_127) (fun _ h9 => h9) rfl dWI_chooseFixed_127 ?_
      refine lv_iload hx hb dWI_chooseFixed_130 (lv_at hl 1 rfl) ?_
      refine lv_aload_n hx hb dWI_chooseFixed_132 rfl (lv_at hl 4 rfl) ?_
      refine vp_callSi (W.runV (As := []) (rest := [.int (nI gv), .ref l3, .int (nI (rm - zRs C 0 gv)), .ref l2]) ⟨hx, hb, hml, hown, hz⟩ (f_GR_columnCount l dC dI g gr gs bg re ce al ed cE cap a mo n ad d (by omega) (by omega) (ha) (hd) (hg)) (cwV 0 hz (z_gV wd_508 wd_392 wd_393 wd_30 wd_394) rfl rfl rfl (by decide +kernel) ⟨Nat.le_of_ble_eq_true rfl, Nat.le_of_ble_eq_true rfl⟩) (zr_preV hK (zt_sub hP [9, 10, 11] rfl) (va_recv (q0 := 9) hK hP (q := (RGR, TGR, 6)) rfl rfl) [4] rfl z_true (fun _ _ _ => trivial)) rfl rfl hl.1 rfl (lv_room (Nat.le_of_ble_eq_true rfl)) dWI_chooseFixed_133 ⟨Nat.le_of_ble_eq_true rfl, Nat.le_of_ble_eq_true rfl⟩) (fun r10 h_r10 => ?_)
      have h_r10 : r10 = nI ce := h_r10
      subst h_r10
      refine zw_callTv (wr := [zob wd 3 [.ref l0, .ref l1, .ref l2, .ref l3], zob l0 4 [.ref p0], zob l1 4 [.ref p1], zar p0 kp0 12 g0, zar p1 kp1 12 g1, zob g 1 [.ref al, .int (nI gr), .int (nI gs), .int (nI bg), .int (nI re), .int (nI ce)], zob al 2 [.ref ed, .int (nI n), .int mo], zrf ed cE cap a]) hK hP hD hS hA [3, 7, 4, 8] [0, 1, 2, 5, 6, 9, 10, 11] rfl rfl (by decide) (by decide) (va_runV (As := [.int (nI (rm - zRs C 0 gv)), .ref l3, .int (nI gv), .int (nI ce)]) (rest := []) ⟨hx, hb, hml, hown, hz⟩ ((x_LI_shareOutE l dC dI (zcs n ad (zcf d)) l2 p2 kp2 C l3 p3 kp3 (fun j => nI (zO j)) zO (rm - zRs C 0 gv) gv ce (by omega) (by omega)) H.size) (cwV 4 hz (z_gV wd_506 wd_484 wd_485 wd_35 wd_486) rfl rfl rfl (by decide +kernel) ⟨Nat.le_of_ble_eq_true rfl, Nat.le_of_ble_eq_true rfl⟩) (zw_preVT hK hP hD (va_recv (q0 := 3) hK hP (q := (RLI, TLI, 1)) rfl rfl) [3, 7, 4, 8] (by decide) rfl [2, 3] rfl z_true (fun _ _ _ => trivial)) rfl rfl hl.1 rfl (lv_room (Nat.le_of_ble_eq_true rfl)) dWI_chooseFixed_136 ⟨Nat.le_of_ble_eq_true rfl, Nat.le_of_ble_eq_true rfl⟩) (fun u H locs h_r11 hP hD hK hS => ?_)
      have hP : va_P (dC, dI) vwCl ([zob wd 3 [.ref l0, .ref l1, .ref l2, .ref l3], zob l0 4 [.ref p0], zob l1 4 [.ref p1], zob l2 4 [.ref p2], zob l3 4 [.ref p3], zar p0 kp0 12 g0, zar p1 kp1 12 g1, zar p2 kp2 12 (fun j => nI (C j)), zar p3 kp3 12 (fun j => nI (zO j)), zob g 1 [.ref al, .int (nI gr), .int (nI gs), .int (nI bg), .int (nI re), .int (nI ce)], zob al 2 [.ref ed, .int (nI n), .int mo], zrf ed cE cap a] ++ zcs n ad (zcf d)) H := zt_sub hP [0, 1, 2, 8, 10, 3, 4, 9, 11, 5, 6, 7] rfl
      have hD : va_D A ([zob wd 3 [.ref l0, .ref l1, .ref l2, .ref l3], zob l0 4 [.ref p0], zob l1 4 [.ref p1], zob l2 4 [.ref p2], zob l3 4 [.ref p3], zar p0 kp0 12 g0, zar p1 kp1 12 g1, zar p2 kp2 12 (fun j => nI (C j)), zar p3 kp3 12 (fun j => nI (zO j)), zob g 1 [.ref al, .int (nI gr), .int (nI gs), .int (nI bg), .int (nI re), .int (nI ce)], zob al 2 [.ref ed, .int (nI n), .int mo], zrf ed cE cap a] ++ zcs n ad (zcf d)) := zt_subD hD [0, 1, 2, 8, 10, 3, 4, 9, 11, 5, 6, 7] (by decide) rfl
      have hK : va_K (dC, dI) vwCl [(kp0, .int), (kp1, .int), (kp2, .int), (kp3, .int), (cE, .object "java/lang/Object")] s := hK
      subst hQ
      exact zw_vret (D := (dC, dI)) (cl := vwCl) (A := A) C hx hb hr hlocks (by rw [zFw_e (by rw [← hxI.2]; exact h_g)]; exact hxI.1) (zt_sub hP [0, 1, 2, 3, 4, 5, 6, 7, 8, 9, 10, 11] rfl) (hK.sub [] rfl) (zt_subD hD [0, 1, 2, 3, 4, 5, 6, 7, 8, 9, 10, 11] (by decide) rfl) hS dWI_chooseFixed_139
  · intro i hi ih
    intro x9 ls H locs hI
    obtain ⟨C, gv⟩ := x9
    obtain ⟨hl, hxI, hP, hD, hS⟩ := hI
    have hl : lv_has ls 8 [(5, .int (nI i)), (4, .int (nI gv)), (3, .int (nI rm)), (2, .int (nI gp)), (1, .ref g), (0, .ref wd)] := hl
    have hP : va_P (dC, dI) vwCl ([zob wd 3 [.ref l0, .ref l1, .ref l2, .ref l3], zob l0 4 [.ref p0], zob l1 4 [.ref p1], zob l2 4 [.ref p2], zob l3 4 [.ref p3], zar p0 kp0 12 g0, zar p1 kp1 12 g1, zar p2 kp2 12 (fun j => nI (C j)), zar p3 kp3 12 (fun j => nI (zO j)), zob g 1 [.ref al, .int (nI gr), .int (nI gs), .int (nI bg), .int (nI re), .int (nI ce)], zob al 2 [.ref ed, .int (nI n), .int mo], zrf ed cE cap a] ++ zcs n ad (zcf d)) H := hP
    have hD : va_D A ([zob wd 3 [.ref l0, .ref l1, .ref l2, .ref l3], zob l0 4 [.ref p0], zob l1 4 [.ref p1], zob l2 4 [.ref p2], zob l3 4 [.ref p3], zar p0 kp0 12 g0, zar p1 kp1 12 g1, zar p2 kp2 12 (fun j => nI (C j)), zar p3 kp3 12 (fun j => nI (zO j)), zob g 1 [.ref al, .int (nI gr), .int (nI gs), .int (nI bg), .int (nI re), .int (nI ce)], zob al 2 [.ref ed, .int (nI n), .int mo], zrf ed cE cap a] ++ zcs n ad (zcf d)) := hD
    refine lv_iload hx hb dWI_chooseFixed_20 (lv_at hl 0 rfl) ?_
    refine lv_aload_n hx hb dWI_chooseFixed_22 rfl (lv_at hl 4 rfl) ?_
    refine vp_callSi (W.runV (As := []) (rest := [.int (nI i)]) ⟨hx, hb, hml, hown, hz⟩ (f_GR_cellCount l dC dI g gr gs bg re ce al ed cE cap a mo n ad d (by omega) (by omega) (ha) (hd) (hg)) (cwV 0 hz (z_gV wd_464 wd_376 wd_377 wd_30 wd_378) rfl rfl rfl (by decide +kernel) ⟨Nat.le_of_ble_eq_true rfl, Nat.le_of_ble_eq_true rfl⟩) (zr_preV hK (zt_sub hP [9, 10, 11] rfl) (va_recv (q0 := 9) hK hP (q := (RGR, TGR, 6)) rfl rfl) [4] rfl z_true (fun _ _ _ => trivial)) rfl rfl hl.1 rfl (lv_room (Nat.le_of_ble_eq_true rfl)) dWI_chooseFixed_23 ⟨Nat.le_of_ble_eq_true rfl, Nat.le_of_ble_eq_true rfl⟩) (fun r12 h_r12 => ?_)
    have h_r12 : r12 = nI n := h_r12
    subst h_r12
    have t13 := nI_toInt (n := i) (by omega)
    have t14 := nI_toInt (n := n) (by omega)
    refine lv_icmp_ge (tgt := 102) hx hb dWI_chooseFixed_26 rfl (fun h => by have h := z_le h; omega) (fun _ => ?_)
    refine lv_aload_n hx hb dWI_chooseFixed_29 rfl (lv_at hl 4 rfl) ?_
    refine lv_iload hx hb dWI_chooseFixed_30 (lv_at hl 0 rfl) ?_
    refine va_csr (W.runV (As := [.int (nI i)]) (rest := []) ⟨hx, hb, hml, hown, hz⟩ (f_GR_cellAt l dC dI g gr gs bg re ce al ed cE cap a mo n ad d i (by omega) (by omega) (ha) (hd) (hg) (by omega)) (cwV 1 hz (z_gV wd_465 wd_360 wd_361 wd_30 wd_362) rfl rfl rfl (by decide +kernel) ⟨Nat.le_of_ble_eq_true rfl, Nat.le_of_ble_eq_true rfl⟩) (zr_preV hK (zt_sub hP [9, 10, 11] rfl) (va_recv (q0 := 9) hK hP (q := (RGR, TGR, 6)) rfl rfl) [4] rfl z_true (fun _ _ _ => trivial)) rfl rfl hl.1 rfl (lv_room (Nat.le_of_ble_eq_true rfl)) dWI_chooseFixed_32 ⟨Nat.le_of_ble_eq_true rfl, Nat.le_of_ble_eq_true rfl⟩) (fun rk h_rk => ?_)
    have h_rk : rk = ad i := h_rk
    subst h_rk
    have hLi := hL i hi
    have hRi := hRc i hi
    have h2i := h21 i hi
    have h3i := hd 3 i hi
    have h1i := hd 1 i hi
    have hbb := zFx_0 (gp := gp) htile (fun k hk => ⟨hd 3 k hk, h21 k hk⟩) i (by omega)
    have hgg : gp * (d 2 i - 1) ≤ 1000 * 12 := Nat.mul_le_mul (by omega) (by omega)
    refine lv_astore hx hb dWI_chooseFixed_35 hl (Nat.le_of_ble_eq_true rfl) rfl (fun ls hl => ?_)
    have hl : lv_has ls 8 [(6, .ref (ad i)), (5, .int (nI i)), (4, .int (nI gv)), (3, .int (nI rm)), (2, .int (nI gp)), (1, .ref g), (0, .ref wd)] := hl
    refine lv_aload hx hb dWI_chooseFixed_37 (lv_at hl 0 rfl) ?_
    refine va_get (D := (dC, dI)) (ci := 7) (v := .int (nI (d 1 i))) (C := RCE) (T := TCE) (N := 10) hx hb hz in_CE hown hK hP (12 + i) (zcs_get rfl (by omega)) rfl 1 (by decide) (hz _ wd_257) (fun _ h9 => h9) rfl dWI_chooseFixed_39 ?_
    have t15 := hd 1 i (by omega)
    have t16 := nI_toInt (n := d 1 i) (by omega)
    have t17 : (0 : Int32).toInt = 0 := by decide
    refine lv_if_ne (tgt := 96) hx hb dWI_chooseFixed_42 rfl (fun h_t => ?_) (fun h_t => ?_)
    · have h_t := z_ne h_t
      refine lv_iinc (k := 1) (v := nI (i + 1)) hx hb dWI_chooseFixed_96 hl rfl (by rw [show Int32.ofInt 1 = nI 1 from by decide]; exact nI_add _ _) (Nat.le_of_ble_eq_true rfl) rfl (fun ls hl => ?_)
      have hl : lv_has ls 8 [(5, .int (nI (i + 1))), (6, .ref (ad i)), (4, .int (nI gv)), (3, .int (nI rm)), (2, .int (nI gp)), (1, .ref g), (0, .ref wd)] := hl
      refine lv_goto (tgt := 20) hx hb dWI_chooseFixed_99 rfl ?_
      exact ih (C, gv) ls H locs ⟨lv_sub hl [0, 2, 3, 4, 5, 6] rfl, ⟨hxI.1.trans (zFx_F (by omega)).symm, hxI.2.trans (zGv_F (by omega)).symm⟩, hP, hD, hS⟩
    · have h_t := z_eq h_t
      refine lv_iconst (v := nI 0) hx hb dWI_chooseFixed_45 (by decide) ?_
      refine lv_aload hx hb dWI_chooseFixed_46 (lv_at hl 0 rfl) ?_
      refine va_get (D := (dC, dI)) (ci := 7) (v := .int (nI (d 3 i))) (C := RCE) (T := TCE) (N := 10) hx hb hz in_CE hown hK hP (12 + i) (zcs_get rfl (by omega)) rfl 3 (by decide) (hz _ wd_265) (fun _ h9 => h9) rfl dWI_chooseFixed_48 ?_
      refine lv_iload_n hx hb dWI_chooseFixed_51 rfl (lv_at hl 4 rfl) ?_
      refine lv_aload hx hb dWI_chooseFixed_52 (lv_at hl 0 rfl) ?_
      refine va_get (D := (dC, dI)) (ci := 7) (v := .int (nI (d 2 i))) (C := RCE) (T := TCE) (N := 10) hx hb hz in_CE hown hK hP (12 + i) (zcs_get rfl (by omega)) rfl 2 (by decide) (hz _ wd_261) (fun _ h9 => h9) rfl dWI_chooseFixed_54 ?_
      refine lv_iconst (v := nI 1) hx hb dWI_chooseFixed_57 (by decide) ?_
      refine lv_isub hx hb dWI_chooseFixed_58 ?_
      refine lv_topi (fun x19 e20 => ?_)
      have e20 : x19 = nI ((d 2 i) - 1) := e20.trans (pk_sub (by omega))
      subst e20
      refine lv_imul hx hb dWI_chooseFixed_59 ?_
      refine lv_topi (fun x21 e22 => ?_)
      have e22 : x21 = nI (gp * ((d 2 i) - 1)) := e22.trans (pk_mul _ _)
      subst e22
      refine lv_isub hx hb dWI_chooseFixed_60 ?_
      refine va_mmax hx hb (hml.trans hl.1.symm) hown (hz _ wd_505) (hz _ wd_190) (hz _ wd_38) (hz _ wd_191) (Nat.le_of_ble_eq_true rfl) (Nat.le_of_ble_eq_true rfl) (Nat.le_of_ble_eq_true rfl) (Nat.le_of_ble_eq_true rfl) dWI_chooseFixed_61 ?_
      refine lv_topi (fun x23 e24 => ?_)
      have e24 : x23 = nI (zOwn (d 3) (d 2) gp i) := e24.trans (z_max0 (by omega) (by omega))
      subst e24
      refine lv_istore hx hb dWI_chooseFixed_64 hl (Nat.le_of_ble_eq_true rfl) rfl (fun ls hl => ?_)
      have hl : lv_has ls 8 [(7, .int (nI (zOwn (d 3) (d 2) gp i))), (6, .ref (ad i)), (5, .int (nI i)), (4, .int (nI gv)), (3, .int (nI rm)), (2, .int (nI gp)), (1, .ref g), (0, .ref wd)] := hl
      refine lv_aload_n hx hb dWI_chooseFixed_66 rfl (lv_at hl 7 rfl) ?_
      refine va_get (D := (dC, dI)) (ci := 3) (v := .ref l2) (C := RWI) (T := TWI) (N := 4) hx hb hz in_WI hown hK hP 0 rfl rfl 2 (by decide) (hz _ wd_125) (fun _ h9 => h9) rfl dWI_chooseFixed_67 ?_
      refine lv_iload hx hb dWI_chooseFixed_70 (lv_at hl 0 rfl) ?_
      refine lv_aload_n hx hb dWI_chooseFixed_72 rfl (lv_at hl 7 rfl) ?_
      refine va_get (D := (dC, dI)) (ci := 3) (v := .ref l3) (C := RWI) (T := TWI) (N := 4) hx hb hz in_WI hown hK hP 0 rfl rfl 3 (by decide) (hz _ wd_127) (fun _ h9 => h9) rfl dWI_chooseFixed_73 ?_
      refine lv_aload hx hb dWI_chooseFixed_76 (lv_at hl 1 rfl) ?_
      refine va_get (D := (dC, dI)) (ci := 7) (v := .int (nI (d 0 i))) (C := RCE) (T := TCE) (N := 10) hx hb hz in_CE hown hK hP (12 + i) (zcs_get rfl (by omega)) rfl 0 (by decide) (hz _ wd_252) (fun _ h9 => h9) rfl dWI_chooseFixed_78 ?_
      refine lv_aload hx hb dWI_chooseFixed_81 (lv_at hl 1 rfl) ?_
      refine vp_callSi (W.runV (As := []) (rest := [.int (nI (d 0 i)), .ref l3, .int (nI (zOwn (d 3) (d 2) gp i)), .ref l2]) ⟨hx, hb, hml, hown, hz⟩ (f_CE_right l dC dI (ad i) (d 0 i) (d 1 i) (d 2 i) (d 3 i) (d 4 i) (d 5 i) (d 6 i) (d 7 i) (d 8 i) (d 9 i) ) (cwV 0 hz (z_gV wd_470 wd_239 wd_240 wd_41 wd_241) rfl rfl rfl (by decide +kernel) ⟨Nat.le_of_ble_eq_true rfl, Nat.le_of_ble_eq_true rfl⟩) (zr_preV hK (zt_one hP (zcs_get rfl (by omega))) (va_recv hK hP (q := (RCE, TCE, 10)) rfl (zcs_get rfl (by omega))) [] rfl z_true (fun _ _ _ => trivial)) rfl rfl hl.1 rfl (lv_room (Nat.le_of_ble_eq_true rfl)) dWI_chooseFixed_83 ⟨Nat.le_of_ble_eq_true rfl, Nat.le_of_ble_eq_true rfl⟩) (fun r25 h_r25 => ?_)
      have h_r25 : r25 = nI ((d 0 i) + (d 2 i)) := h_r25
      subst h_r25
      refine zw_callTv (wr := [zob wd 3 [.ref l0, .ref l1, .ref l2, .ref l3], zob l0 4 [.ref p0], zob l1 4 [.ref p1], zar p0 kp0 12 g0, zar p1 kp1 12 g1, zob g 1 [.ref al, .int (nI gr), .int (nI gs), .int (nI bg), .int (nI re), .int (nI ce)], zob al 2 [.ref ed, .int (nI n), .int mo], zrf ed cE cap a]) hK hP hD hS hA [3, 7, 4, 8] [0, 1, 2, 5, 6, 9, 10, 11] rfl rfl (by decide) (by decide) (va_runV (As := [.int (nI (zOwn (d 3) (d 2) gp i)), .ref l3, .int (nI (d 0 i)), .int (nI ((d 0 i) + (d 2 i)))]) (rest := []) ⟨hx, hb, hml, hown, hz⟩ ((x_LI_shareOut l dC dI (zcs n ad (zcf d)) l2 p2 kp2 C l3 p3 kp3 (fun j => nI (zO j)) zO (zOwn (d 3) (d 2) gp i) (d 0 i) ((d 0 i) + (d 2 i)) (by omega) (by omega) (by omega) (by rw [hxI.1]; exact fun q => Nat.le_trans (hbb.2 q) (by omega)) (zO_le) (fun _ _ _ => rfl) (by unfold zOwn; omega)) H.size) (cwV 4 hz (z_gV wd_506 wd_484 wd_485 wd_35 wd_486) rfl rfl rfl (by decide +kernel) ⟨Nat.le_of_ble_eq_true rfl, Nat.le_of_ble_eq_true rfl⟩) (zw_preVT hK hP hD (va_recv (q0 := 3) hK hP (q := (RLI, TLI, 1)) rfl rfl) [3, 7, 4, 8] (by decide) rfl [2, 3] rfl z_true (fun _ _ _ => trivial)) rfl rfl hl.1 rfl (lv_room (Nat.le_of_ble_eq_true rfl)) dWI_chooseFixed_86 ⟨Nat.le_of_ble_eq_true rfl, Nat.le_of_ble_eq_true rfl⟩) (fun u H locs h_sh hP hD hK hS => ?_)
      obtain ⟨C_2, rfl⟩ : ∃ z, z = u := ⟨_, rfl⟩
      have hP : va_P (dC, dI) vwCl ([zob wd 3 [.ref l0, .ref l1, .ref l2, .ref l3], zob l0 4 [.ref p0], zob l1 4 [.ref p1], zob l2 4 [.ref p2], zob l3 4 [.ref p3], zar p0 kp0 12 g0, zar p1 kp1 12 g1, zar p2 kp2 12 (fun j => nI (C_2 j)), zar p3 kp3 12 (fun j => nI (zO j)), zob g 1 [.ref al, .int (nI gr), .int (nI gs), .int (nI bg), .int (nI re), .int (nI ce)], zob al 2 [.ref ed, .int (nI n), .int mo], zrf ed cE cap a] ++ zcs n ad (zcf d)) H := zt_sub hP [0, 1, 2, 8, 10, 3, 4, 9, 11, 5, 6, 7] rfl
      have hD : va_D A ([zob wd 3 [.ref l0, .ref l1, .ref l2, .ref l3], zob l0 4 [.ref p0], zob l1 4 [.ref p1], zob l2 4 [.ref p2], zob l3 4 [.ref p3], zar p0 kp0 12 g0, zar p1 kp1 12 g1, zar p2 kp2 12 (fun j => nI (C_2 j)), zar p3 kp3 12 (fun j => nI (zO j)), zob g 1 [.ref al, .int (nI gr), .int (nI gs), .int (nI bg), .int (nI re), .int (nI ce)], zob al 2 [.ref ed, .int (nI n), .int mo], zrf ed cE cap a] ++ zcs n ad (zcf d)) := zt_subD hD [0, 1, 2, 8, 10, 3, 4, 9, 11, 5, 6, 7] (by decide) rfl
      have hK : va_K (dC, dI) vwCl [(kp0, .int), (kp1, .int), (kp2, .int), (kp3, .int), (cE, .object "java/lang/Object")] s := hK
      have h_sh : C_2 = zShr C zO (zOwn (d 3) (d 2) gp i) (d 0 i) ((d 0 i) + (d 2 i)) := h_sh
      refine lv_aload hx hb dWI_chooseFixed_89 (lv_at hl 1 rfl) ?_
      refine vp_callSi (W.runV (As := []) (rest := []) ⟨hx, hb, hml, hown, hz⟩ (f_CE_right l dC dI (ad i) (d 0 i) (d 1 i) (d 2 i) (d 3 i) (d 4 i) (d 5 i) (d 6 i) (d 7 i) (d 8 i) (d 9 i) ) (cwV 0 hz (z_gV wd_470 wd_239 wd_240 wd_41 wd_241) rfl rfl rfl (by decide +kernel) ⟨Nat.le_of_ble_eq_true rfl, Nat.le_of_ble_eq_true rfl⟩) (zr_preV hK (zt_one hP (zcs_get rfl (by omega))) (va_recv hK hP (q := (RCE, TCE, 10)) rfl (zcs_get rfl (by omega))) [] rfl z_true (fun _ _ _ => trivial)) rfl rfl hl.1 rfl (lv_room (Nat.le_of_ble_eq_true rfl)) dWI_chooseFixed_91 ⟨Nat.le_of_ble_eq_true rfl, Nat.le_of_ble_eq_true rfl⟩) (fun r26 h_r26 => ?_)
      have h_r26 : r26 = nI ((d 0 i) + (d 2 i)) := h_r26
      subst h_r26
      refine lv_istore hx hb dWI_chooseFixed_94 hl (Nat.le_of_ble_eq_true rfl) rfl (fun ls hl => ?_)
      have hl : lv_has ls 8 [(4, .int (nI ((d 0 i) + (d 2 i)))), (7, .int (nI (zOwn (d 3) (d 2) gp i))), (6, .ref (ad i)), (5, .int (nI i)), (3, .int (nI rm)), (2, .int (nI gp)), (1, .ref g), (0, .ref wd)] := hl
      refine lv_iinc (k := 3) (v := nI (i + 1)) hx hb dWI_chooseFixed_96 hl rfl (by rw [show Int32.ofInt 1 = nI 1 from by decide]; exact nI_add _ _) (Nat.le_of_ble_eq_true rfl) rfl (fun ls hl => ?_)
      have hl : lv_has ls 8 [(5, .int (nI (i + 1))), (4, .int (nI ((d 0 i) + (d 2 i)))), (7, .int (nI (zOwn (d 3) (d 2) gp i))), (6, .ref (ad i)), (3, .int (nI rm)), (2, .int (nI gp)), (1, .ref g), (0, .ref wd)] := hl
      refine lv_goto (tgt := 20) hx hb dWI_chooseFixed_99 rfl ?_
      exact ih (C_2, (d 0 i) + (d 2 i)) ls H locs ⟨lv_sub hl [0, 1, 4, 5, 6, 7] rfl, ⟨by rw [zFx_T (by omega), ← hxI.1]; exact h_sh, (zGv_T (by omega)).symm⟩, hP, hD, hS⟩
