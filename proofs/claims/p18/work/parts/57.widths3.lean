set_option maxHeartbeats 4000000 in
set_option maxRecDepth 100000 in
theorem f_WI_measure (l : Launch) (dC : Nat → ClassId) (dI : Nat → Nat → Nat) (wd : Nat) (l0 : Nat) (l1 : Nat) (l2 : Nat) (l3 : Nat) (p0 : Nat) (p1 : Nat) (p2 : Nat) (p3 : Nat) (kp0 : ClassId) (kp1 : ClassId) (kp2 : ClassId) (kp3 : ClassId) (g0 : Nat → Int32) (g1 : Nat → Int32) (g2 : Nat → Int32) (g3 : Nat → Int32) (g : Nat) (gr : Nat) (gs : Nat) (bg : Nat) (re : Nat) (ce : Nat) (al : Nat) (ed : Nat) (cE : ClassId) (cap : Nat) (a : Nat → Option Nat) (mo : Int32) (n : Nat) (ad : Nat → Nat) (d : Nat → Nat → Nat) (gp : Nat) (hn : n ≤ cap) (hc : cap < 2147483648) (ha : ∀ k, k < n → a k = some (ad k)) (hd : ∀ j k, k < n → d j k ≤ 1000) (hg : gr ≤ 1000 ∧ gs ≤ 1000 ∧ bg ≤ 1000 ∧ re ≤ 1000 ∧ ce ≤ 1000) (hL : ∀ k, k < n → d 0 k + d 2 k ≤ 12) : zw_Mv (S := (Nat → Int32) × (Nat → Int32) × (Nat → Int32) × (Nat → Int32)) l yWI_measure wWI_measure ({ frames := 4, cells := 0, slots := 0, locals := 103 }) [.ref wd, .ref g, .int (nI gp)] (dC, dI) vwCl ([zob wd 3 [.ref l0, .ref l1, .ref l2, .ref l3], zob l0 4 [.ref p0], zob l1 4 [.ref p1], zob l2 4 [.ref p2], zob l3 4 [.ref p3], zar p0 kp0 12 g0, zar p1 kp1 12 g1, zar p2 kp2 12 g2, zar p3 kp3 12 g3, zob g 1 [.ref al, .int (nI gr), .int (nI gs), .int (nI bg), .int (nI re), .int (nI ce)], zob al 2 [.ref ed, .int (nI n), .int mo], zrf ed cE cap a] ++ zcs n ad (zcf d)) [(kp0, .int), (kp1, .int), (kp2, .int), (kp3, .int), (cE, .object "java/lang/Object")] (fun _ _ => True) (fun u => match u with | (u0, u1, u2, u3) => True) (fun u => match u with | (u0, u1, u2, u3) => ([zob wd 3 [.ref l0, .ref l1, .ref l2, .ref l3], zob l0 4 [.ref p0], zob l1 4 [.ref p1], zob l2 4 [.ref p2], zob l3 4 [.ref p3], zar p0 kp0 12 u0, zar p1 kp1 12 u1, zar p2 kp2 12 u2, zar p3 kp3 12 u3, zob g 1 [.ref al, .int (nI gr), .int (nI gs), .int (nI bg), .int (nI re), .int (nI ce)], zob al 2 [.ref ed, .int (nI n), .int mo], zrf ed cE cap a] ++ zcs n ad (zcf d))) (fun u => match u with | (u0, u1, u2, u3) => []) 0 0 := by
  refine zw_headv (cc := cWI_measure) (maxL := 5) (ret := none) (by decide +kernel) rfl (Nat.le_of_ble_eq_true rfl) ?_
  intro p e s m below meth c ls A F hnm hA hP hK hD hS hX hl
  obtain ⟨hx, hb, hml, hr, hlocks, hown, hts⟩ := F
  have hown : s.vm.findClass "SpannedCells$Widths" = some m.cls := hown
  have hz : ∀ w9 ∈ zT, w9.before [.ref wd, .ref g, .int (nI gp)].toArray s = true := fun w9 h => hts w9 (List.mem_cons_of_mem _ h)
  have hl : lv_has ls 5 [(0, .ref wd), (1, .ref g), (2, .int (nI gp))] := hl
  refine z_q (fun Q hQ => ?_)
  refine lv_aload_n hx hb dWI_measure_0 rfl (lv_at hl 0 rfl) ?_
  refine va_get (D := (dC, dI)) (ci := 3) (v := .ref l0) (C := RWI) (T := TWI) (N := 4) hx hb hz in_WI hown hK hP 0 rfl rfl 0 (by decide) (hz _ wd_121) (fun _ h9 => h9) rfl dWI_measure_1 ?_
  refine zw_callTv (wr := [zob wd 3 [.ref l0, .ref l1, .ref l2, .ref l3], zob l1 4 [.ref p1], zob l2 4 [.ref p2], zob l3 4 [.ref p3], zar p1 kp1 12 g1, zar p2 kp2 12 g2, zar p3 kp3 12 g3, zob g 1 [.ref al, .int (nI gr), .int (nI gs), .int (nI bg), .int (nI re), .int (nI ce)], zob al 2 [.ref ed, .int (nI n), .int mo], zrf ed cE cap a]) hK hP hD hS hA [1, 5] [0, 2, 3, 4, 6, 7, 8, 9, 10, 11] rfl rfl (by decide) (by decide) (va_runV (As := []) (rest := []) ⟨hx, hb, hml, hown, hz⟩ ((f_LI_reset l dC dI (zcs n ad (zcf d)) l0 p0 kp0 g0 ) s.heap.size) (cwV 0 hz (z_gV wd_457 wd_458 wd_459 wd_35 wd_460) rfl rfl rfl (by decide +kernel) ⟨Nat.le_of_ble_eq_true rfl, Nat.le_of_ble_eq_true rfl⟩) (zw_preVT hK hP hD (va_recv (q0 := 1) hK hP (q := (RLI, TLI, 1)) rfl rfl) [1, 5] (by decide) rfl [0] rfl z_true (fun _ _ _ => trivial)) rfl rfl hl.1 rfl (lv_room (Nat.le_of_ble_eq_true rfl)) dWI_measure_4 ⟨Nat.le_of_ble_eq_true rfl, Nat.le_of_ble_eq_true rfl⟩) (fun u H locs h_r2 hP hD hK hS => ?_)
  obtain ⟨f_1, rfl⟩ : ∃ z, z = u := ⟨_, rfl⟩
  have hP : va_P (dC, dI) vwCl ([zob wd 3 [.ref l0, .ref l1, .ref l2, .ref l3], zob l0 4 [.ref p0], zob l1 4 [.ref p1], zob l2 4 [.ref p2], zob l3 4 [.ref p3], zar p0 kp0 12 f_1, zar p1 kp1 12 g1, zar p2 kp2 12 g2, zar p3 kp3 12 g3, zob g 1 [.ref al, .int (nI gr), .int (nI gs), .int (nI bg), .int (nI re), .int (nI ce)], zob al 2 [.ref ed, .int (nI n), .int mo], zrf ed cE cap a] ++ zcs n ad (zcf d)) H := zt_sub hP [0, 10, 1, 2, 3, 11, 4, 5, 6, 7, 8, 9] rfl
  have hD : va_D A ([zob wd 3 [.ref l0, .ref l1, .ref l2, .ref l3], zob l0 4 [.ref p0], zob l1 4 [.ref p1], zob l2 4 [.ref p2], zob l3 4 [.ref p3], zar p0 kp0 12 f_1, zar p1 kp1 12 g1, zar p2 kp2 12 g2, zar p3 kp3 12 g3, zob g 1 [.ref al, .int (nI gr), .int (nI gs), .int (nI bg), .int (nI re), .int (nI ce)], zob al 2 [.ref ed, .int (nI n), .int mo], zrf ed cE cap a] ++ zcs n ad (zcf d)) := zt_subD hD [0, 10, 1, 2, 3, 11, 4, 5, 6, 7, 8, 9] (by decide) rfl
  have hK : va_K (dC, dI) vwCl [(kp0, .int), (kp1, .int), (kp2, .int), (kp3, .int), (cE, .object "java/lang/Object")] s := hK
  refine lv_aload_n hx hb dWI_measure_7 rfl (lv_at hl 0 rfl) ?_
  refine va_get (D := (dC, dI)) (ci := 3) (v := .ref l1) (C := RWI) (T := TWI) (N := 4) hx hb hz in_WI hown hK hP 0 rfl rfl 1 (by decide) (hz _ wd_123) (fun _ h9 => h9) rfl dWI_measure_8 ?_
  refine zw_callTv (wr := [zob wd 3 [.ref l0, .ref l1, .ref l2, .ref l3], zob l0 4 [.ref p0], zob l2 4 [.ref p2], zob l3 4 [.ref p3], zar p0 kp0 12 f_1, zar p2 kp2 12 g2, zar p3 kp3 12 g3, zob g 1 [.ref al, .int (nI gr), .int (nI gs), .int (nI bg), .int (nI re), .int (nI ce)], zob al 2 [.ref ed, .int (nI n), .int mo], zrf ed cE cap a]) hK hP hD hS hA [2, 6] [0, 1, 3, 4, 5, 7, 8, 9, 10, 11] rfl rfl (by decide) (by decide) (va_runV (As := []) (rest := []) ⟨hx, hb, hml, hown, hz⟩ ((f_LI_reset l dC dI (zcs n ad (zcf d)) l1 p1 kp1 g1 ) H.size) (cwV 0 hz (z_gV wd_457 wd_458 wd_459 wd_35 wd_460) rfl rfl rfl (by decide +kernel) ⟨Nat.le_of_ble_eq_true rfl, Nat.le_of_ble_eq_true rfl⟩) (zw_preVT hK hP hD (va_recv (q0 := 2) hK hP (q := (RLI, TLI, 1)) rfl rfl) [2, 6] (by decide) rfl [1] rfl z_true (fun _ _ _ => trivial)) rfl rfl hl.1 rfl (lv_room (Nat.le_of_ble_eq_true rfl)) dWI_measure_11 ⟨Nat.le_of_ble_eq_true rfl, Nat.le_of_ble_eq_true rfl⟩) (fun u H locs h_r4 hP hD hK hS => ?_)
  obtain ⟨f_3, rfl⟩ : ∃ z, z = u := ⟨_, rfl⟩
  have hP : va_P (dC, dI) vwCl ([zob wd 3 [.ref l0, .ref l1, .ref l2, .ref l3], zob l0 4 [.ref p0], zob l1 4 [.ref p1], zob l2 4 [.ref p2], zob l3 4 [.ref p3], zar p0 kp0 12 f_1, zar p1 kp1 12 f_3, zar p2 kp2 12 g2, zar p3 kp3 12 g3, zob g 1 [.ref al, .int (nI gr), .int (nI gs), .int (nI bg), .int (nI re), .int (nI ce)], zob al 2 [.ref ed, .int (nI n), .int mo], zrf ed cE cap a] ++ zcs n ad (zcf d)) H := zt_sub hP [0, 1, 10, 2, 3, 4, 11, 5, 6, 7, 8, 9] rfl
  have hD : va_D A ([zob wd 3 [.ref l0, .ref l1, .ref l2, .ref l3], zob l0 4 [.ref p0], zob l1 4 [.ref p1], zob l2 4 [.ref p2], zob l3 4 [.ref p3], zar p0 kp0 12 f_1, zar p1 kp1 12 f_3, zar p2 kp2 12 g2, zar p3 kp3 12 g3, zob g 1 [.ref al, .int (nI gr), .int (nI gs), .int (nI bg), .int (nI re), .int (nI ce)], zob al 2 [.ref ed, .int (nI n), .int mo], zrf ed cE cap a] ++ zcs n ad (zcf d)) := zt_subD hD [0, 1, 10, 2, 3, 4, 11, 5, 6, 7, 8, 9] (by decide) rfl
  have hK : va_K (dC, dI) vwCl [(kp0, .int), (kp1, .int), (kp2, .int), (kp3, .int), (cE, .object "java/lang/Object")] s := hK
  refine lv_iconst (v := nI 1) hx hb dWI_measure_14 (by decide) ?_
  refine lv_istore_n hx hb dWI_measure_15 rfl hl (Nat.le_of_ble_eq_true rfl) rfl (fun ls hl => ?_)
  have hl : lv_has ls 5 [(3, .int (nI 1)), (0, .ref wd), (1, .ref g), (2, .int (nI gp))] := hl
  refine zl_upW (σ := (Nat → Int32) × (Nat → Int32) × (Nat → Int32) × (Nat → Int32)) 7 (fun i x9 ls H locs => match x9 with | (b_0, b_1, b_2, b_3) => lv_has ls 5 [(3, .int (nI i)), (2, .int (nI gp)), (1, .ref g), (0, .ref wd)] ∧ va_P (dC, dI) vwCl ([zob wd 3 [.ref l0, .ref l1, .ref l2, .ref l3], zob l0 4 [.ref p0], zob l1 4 [.ref p1], zob l2 4 [.ref p2], zob l3 4 [.ref p3], zar p0 kp0 12 b_0, zar p1 kp1 12 b_1, zar p2 kp2 12 b_2, zar p3 kp3 12 b_3, zob g 1 [.ref al, .int (nI gr), .int (nI gs), .int (nI bg), .int (nI re), .int (nI ce)], zob al 2 [.ref ed, .int (nI n), .int mo], zrf ed cE cap a] ++ zcs n ad (zcf d)) H ∧ va_D A ([zob wd 3 [.ref l0, .ref l1, .ref l2, .ref l3], zob l0 4 [.ref p0], zob l1 4 [.ref p1], zob l2 4 [.ref p2], zob l3 4 [.ref p3], zar p0 kp0 12 b_0, zar p1 kp1 12 b_1, zar p2 kp2 12 b_2, zar p3 kp3 12 b_3, zob g 1 [.ref al, .int (nI gr), .int (nI gs), .int (nI bg), .int (nI re), .int (nI ce)], zob al 2 [.ref ed, .int (nI n), .int mo], zrf ed cE cap a] ++ zcs n ad (zcf d)) ∧ va_S A s.heap H locs) ?_ ?_ 1 (by decide) (f_1, f_3, g2, g3) ls H locs ⟨lv_sub hl [0, 3, 2, 1] rfl, hP, hD, hS⟩
  · intro x9 ls H locs hI
    obtain ⟨b_0, b_1, b_2, b_3⟩ := x9
    obtain ⟨hl, hP, hD, hS⟩ := hI
    have hl : lv_has ls 5 [(3, .int (nI 7)), (2, .int (nI gp)), (1, .ref g), (0, .ref wd)] := hl
    have hP : va_P (dC, dI) vwCl ([zob wd 3 [.ref l0, .ref l1, .ref l2, .ref l3], zob l0 4 [.ref p0], zob l1 4 [.ref p1], zob l2 4 [.ref p2], zob l3 4 [.ref p3], zar p0 kp0 12 b_0, zar p1 kp1 12 b_1, zar p2 kp2 12 b_2, zar p3 kp3 12 b_3, zob g 1 [.ref al, .int (nI gr), .int (nI gs), .int (nI bg), .int (nI re), .int (nI ce)], zob al 2 [.ref ed, .int (nI n), .int mo], zrf ed cE cap a] ++ zcs n ad (zcf d)) H := hP
    have hD : va_D A ([zob wd 3 [.ref l0, .ref l1, .ref l2, .ref l3], zob l0 4 [.ref p0], zob l1 4 [.ref p1], zob l2 4 [.ref p2], zob l3 4 [.ref p3], zar p0 kp0 12 b_0, zar p1 kp1 12 b_1, zar p2 kp2 12 b_2, zar p3 kp3 12 b_3, zob g 1 [.ref al, .int (nI gr), .int (nI gs), .int (nI bg), .int (nI re), .int (nI ce)], zob al 2 [.ref ed, .int (nI n), .int mo], zrf ed cE cap a] ++ zcs n ad (zcf d)) := hD
    refine lv_iload_n hx hb dWI_measure_16 rfl (lv_at hl 0 rfl) ?_
    refine lv_bipush (v := nI 6) hx hb dWI_measure_17 (by decide) ?_
    refine lv_icmp_gt (tgt := 70) hx hb dWI_measure_19 rfl (fun _ => ?_) (fun h => absurd (by decide) h)
    subst hQ
    exact zw_vret (D := (dC, dI)) (cl := vwCl) (A := A) (b_0, b_1, b_2, b_3) hx hb hr hlocks (trivial) (zt_sub hP [0, 1, 2, 3, 4, 5, 6, 7, 8, 9, 10, 11] rfl) (hK.sub [] rfl) (zt_subD hD [0, 1, 2, 3, 4, 5, 6, 7, 8, 9, 10, 11] (by decide) rfl) hS dWI_measure_70
  · intro i hi ih
    intro x9 ls H locs hI
    obtain ⟨b_0, b_1, b_2, b_3⟩ := x9
    obtain ⟨hl, hP, hD, hS⟩ := hI
    have hl : lv_has ls 5 [(3, .int (nI i)), (2, .int (nI gp)), (1, .ref g), (0, .ref wd)] := hl
    have hP : va_P (dC, dI) vwCl ([zob wd 3 [.ref l0, .ref l1, .ref l2, .ref l3], zob l0 4 [.ref p0], zob l1 4 [.ref p1], zob l2 4 [.ref p2], zob l3 4 [.ref p3], zar p0 kp0 12 b_0, zar p1 kp1 12 b_1, zar p2 kp2 12 b_2, zar p3 kp3 12 b_3, zob g 1 [.ref al, .int (nI gr), .int (nI gs), .int (nI bg), .int (nI re), .int (nI ce)], zob al 2 [.ref ed, .int (nI n), .int mo], zrf ed cE cap a] ++ zcs n ad (zcf d)) H := hP
    have hD : va_D A ([zob wd 3 [.ref l0, .ref l1, .ref l2, .ref l3], zob l0 4 [.ref p0], zob l1 4 [.ref p1], zob l2 4 [.ref p2], zob l3 4 [.ref p3], zar p0 kp0 12 b_0, zar p1 kp1 12 b_1, zar p2 kp2 12 b_2, zar p3 kp3 12 b_3, zob g 1 [.ref al, .int (nI gr), .int (nI gs), .int (nI bg), .int (nI re), .int (nI ce)], zob al 2 [.ref ed, .int (nI n), .int mo], zrf ed cE cap a] ++ zcs n ad (zcf d)) := hD
    refine lv_iload_n hx hb dWI_measure_16 rfl (lv_at hl 0 rfl) ?_
    refine lv_bipush (v := nI 6) hx hb dWI_measure_17 (by decide) ?_
    have t5 := nI_toInt (n := i) (by omega)
    have t6 := nI_toInt (n := 6) (by omega)
    refine lv_icmp_gt (tgt := 70) hx hb dWI_measure_19 rfl (fun h => by have h := z_lt h; omega) (fun _ => ?_)
    refine lv_iconst (v := nI 0) hx hb dWI_measure_22 (by decide) ?_
    refine lv_istore hx hb dWI_measure_23 hl (Nat.le_of_ble_eq_true rfl) rfl (fun ls hl => ?_)
    have hl : lv_has ls 5 [(4, .int (nI 0)), (3, .int (nI i)), (2, .int (nI gp)), (1, .ref g), (0, .ref wd)] := hl
    refine zl_upW (σ := (Nat → Int32) × (Nat → Int32) × (Nat → Int32) × (Nat → Int32)) n (fun j x9 ls H locs => match x9 with | (c_0, c_1, c_2, c_3) => lv_has ls 5 [(4, .int (nI j)), (3, .int (nI i)), (2, .int (nI gp)), (1, .ref g), (0, .ref wd)] ∧ va_P (dC, dI) vwCl ([zob wd 3 [.ref l0, .ref l1, .ref l2, .ref l3], zob l0 4 [.ref p0], zob l1 4 [.ref p1], zob l2 4 [.ref p2], zob l3 4 [.ref p3], zar p0 kp0 12 c_0, zar p1 kp1 12 c_1, zar p2 kp2 12 c_2, zar p3 kp3 12 c_3, zob g 1 [.ref al, .int (nI gr), .int (nI gs), .int (nI bg), .int (nI re), .int (nI ce)], zob al 2 [.ref ed, .int (nI n), .int mo], zrf ed cE cap a] ++ zcs n ad (zcf d)) H ∧ va_D A ([zob wd 3 [.ref l0, .ref l1, .ref l2, .ref l3], zob l0 4 [.ref p0], zob l1 4 [.ref p1], zob l2 4 [.ref p2], zob l3 4 [.ref p3], zar p0 kp0 12 c_0, zar p1 kp1 12 c_1, zar p2 kp2 12 c_2, zar p3 kp3 12 c_3, zob g 1 [.ref al, .int (nI gr), .int (nI gs), .int (nI bg), .int (nI re), .int (nI ce)], zob al 2 [.ref ed, .int (nI n), .int mo], zrf ed cE cap a] ++ zcs n ad (zcf d)) ∧ va_S A s.heap H locs) ?_ ?_ 0 (Nat.zero_le _) (b_0, b_1, b_2, b_3) ls H locs ⟨lv_sub hl [0, 1, 2, 3, 4] rfl, hP, hD, hS⟩
    · intro x9 ls H locs hI
      obtain ⟨c_0, c_1, c_2, c_3⟩ := x9
      obtain ⟨hl, hP, hD, hS⟩ := hI
      have hl : lv_has ls 5 [(4, .int (nI n)), (3, .int (nI i)), (2, .int (nI gp)), (1, .ref g), (0, .ref wd)] := hl
      have hP : va_P (dC, dI) vwCl ([zob wd 3 [.ref l0, .ref l1, .ref l2, .ref l3], zob l0 4 [.ref p0], zob l1 4 [.ref p1], zob l2 4 [.ref p2], zob l3 4 [.ref p3], zar p0 kp0 12 c_0, zar p1 kp1 12 c_1, zar p2 kp2 12 c_2, zar p3 kp3 12 c_3, zob g 1 [.ref al, .int (nI gr), .int (nI gs), .int (nI bg), .int (nI re), .int (nI ce)], zob al 2 [.ref ed, .int (nI n), .int mo], zrf ed cE cap a] ++ zcs n ad (zcf d)) H := hP
      have hD : va_D A ([zob wd 3 [.ref l0, .ref l1, .ref l2, .ref l3], zob l0 4 [.ref p0], zob l1 4 [.ref p1], zob l2 4 [.ref p2], zob l3 4 [.ref p3], zar p0 kp0 12 c_0, zar p1 kp1 12 c_1, zar p2 kp2 12 c_2, zar p3 kp3 12 c_3, zob g 1 [.ref al, .int (nI gr), .int (nI gs), .int (nI bg), .int (nI re), .int (nI ce)], zob al 2 [.ref ed, .int (nI n), .int mo], zrf ed cE cap a] ++ zcs n ad (zcf d)) := hD
      refine lv_iload hx hb dWI_measure_25 (lv_at hl 0 rfl) ?_
      refine lv_aload_n hx hb dWI_measure_27 rfl (lv_at hl 3 rfl) ?_
      refine vp_callSi (W.runV (As := []) (rest := [.int (nI n)]) ⟨hx, hb, hml, hown, hz⟩ (f_GR_cellCount l dC dI g gr gs bg re ce al ed cE cap a mo n ad d (by omega) (by omega) (ha) (hd) (hg)) (cwV 0 hz (z_gV wd_464 wd_376 wd_377 wd_30 wd_378) rfl rfl rfl (by decide +kernel) ⟨Nat.le_of_ble_eq_true rfl, Nat.le_of_ble_eq_true rfl⟩) (zr_preV hK (zt_sub hP [9, 10, 11] rfl) (va_recv (q0 := 9) hK hP (q := (RGR, TGR, 6)) rfl rfl) [4] rfl z_true (fun _ _ _ => trivial)) rfl rfl hl.1 rfl (lv_room (Nat.le_of_ble_eq_true rfl)) dWI_measure_28 ⟨Nat.le_of_ble_eq_true rfl, Nat.le_of_ble_eq_true rfl⟩) (fun r7 h_r7 => ?_)
      have h_r7 : r7 = nI n := h_r7
      subst h_r7
      have t8 := nI_toInt (n := n) (by omega)
      have t9 := nI_toInt (n := n) (by omega)
      refine lv_icmp_ge (tgt := 64) hx hb dWI_measure_31 rfl (fun _ => ?_) (fun h => by have h := z_nle h; omega)
      refine lv_iinc (k := 1) (v := nI (i + 1)) hx hb dWI_measure_64 hl rfl (by rw [show Int32.ofInt 1 = nI 1 from by decide]; exact nI_add _ _) (Nat.le_of_ble_eq_true rfl) rfl (fun ls hl => ?_)
      have hl : lv_has ls 5 [(3, .int (nI (i + 1))), (4, .int (nI n)), (2, .int (nI gp)), (1, .ref g), (0, .ref wd)] := hl
      refine lv_goto (tgt := 16) hx hb dWI_measure_67 rfl ?_
      exact ih (c_0, c_1, c_2, c_3) ls H locs ⟨lv_sub hl [0, 2, 3, 4] rfl, hP, hD, hS⟩
    · intro j hj jh
      intro x9 ls H locs hI
      obtain ⟨c_0, c_1, c_2, c_3⟩ := x9
      obtain ⟨hl, hP, hD, hS⟩ := hI
      have hl : lv_has ls 5 [(4, .int (nI j)), (3, .int (nI i)), (2, .int (nI gp)), (1, .ref g), (0, .ref wd)] := hl
      have hP : va_P (dC, dI) vwCl ([zob wd 3 [.ref l0, .ref l1, .ref l2, .ref l3], zob l0 4 [.ref p0], zob l1 4 [.ref p1], zob l2 4 [.ref p2], zob l3 4 [.ref p3], zar p0 kp0 12 c_0, zar p1 kp1 12 c_1, zar p2 kp2 12 c_2, zar p3 kp3 12 c_3, zob g 1 [.ref al, .int (nI gr), .int (nI gs), .int (nI bg), .int (nI re), .int (nI ce)], zob al 2 [.ref ed, .int (nI n), .int mo], zrf ed cE cap a] ++ zcs n ad (zcf d)) H := hP
      have hD : va_D A ([zob wd 3 [.ref l0, .ref l1, .ref l2, .ref l3], zob l0 4 [.ref p0], zob l1 4 [.ref p1], zob l2 4 [.ref p2], zob l3 4 [.ref p3], zar p0 kp0 12 c_0, zar p1 kp1 12 c_1, zar p2 kp2 12 c_2, zar p3 kp3 12 c_3, zob g 1 [.ref al, .int (nI gr), .int (nI gs), .int (nI bg), .int (nI re), .int (nI ce)], zob al 2 [.ref ed, .int (nI n), .int mo], zrf ed cE cap a] ++ zcs n ad (zcf d)) := hD
      refine lv_iload hx hb dWI_measure_25 (lv_at hl 0 rfl) ?_
      refine lv_aload_n hx hb dWI_measure_27 rfl (lv_at hl 3 rfl) ?_
      refine vp_callSi (W.runV (As := []) (rest := [.int (nI j)]) ⟨hx, hb, hml, hown, hz⟩ (f_GR_cellCount l dC dI g gr gs bg re ce al ed cE cap a mo n ad d (by omega) (by omega) (ha) (hd) (hg)) (cwV 0 hz (z_gV wd_464 wd_376 wd_377 wd_30 wd_378) rfl rfl rfl (by decide +kernel) ⟨Nat.le_of_ble_eq_true rfl, Nat.le_of_ble_eq_true rfl⟩) (zr_preV hK (zt_sub hP [9, 10, 11] rfl) (va_recv (q0 := 9) hK hP (q := (RGR, TGR, 6)) rfl rfl) [4] rfl z_true (fun _ _ _ => trivial)) rfl rfl hl.1 rfl (lv_room (Nat.le_of_ble_eq_true rfl)) dWI_measure_28 ⟨Nat.le_of_ble_eq_true rfl, Nat.le_of_ble_eq_true rfl⟩) (fun r10 h_r10 => ?_)
      have h_r10 : r10 = nI n := h_r10
      subst h_r10
      have t11 := nI_toInt (n := j) (by omega)
      have t12 := nI_toInt (n := n) (by omega)
      refine lv_icmp_ge (tgt := 64) hx hb dWI_measure_31 rfl (fun h => by have h := z_le h; omega) (fun _ => ?_)
      refine lv_aload_n hx hb dWI_measure_34 rfl (lv_at hl 3 rfl) ?_
      refine lv_iload hx hb dWI_measure_35 (lv_at hl 0 rfl) ?_
      refine va_csr (W.runV (As := [.int (nI j)]) (rest := []) ⟨hx, hb, hml, hown, hz⟩ (f_GR_cellAt l dC dI g gr gs bg re ce al ed cE cap a mo n ad d j (by omega) (by omega) (ha) (hd) (hg) (by omega)) (cwV 1 hz (z_gV wd_465 wd_360 wd_361 wd_30 wd_362) rfl rfl rfl (by decide +kernel) ⟨Nat.le_of_ble_eq_true rfl, Nat.le_of_ble_eq_true rfl⟩) (zr_preV hK (zt_sub hP [9, 10, 11] rfl) (va_recv (q0 := 9) hK hP (q := (RGR, TGR, 6)) rfl rfl) [4] rfl z_true (fun _ _ _ => trivial)) rfl rfl hl.1 rfl (lv_room (Nat.le_of_ble_eq_true rfl)) dWI_measure_37 ⟨Nat.le_of_ble_eq_true rfl, Nat.le_of_ble_eq_true rfl⟩) (fun r13 h_r13 => ?_)
      have h_r13 : r13 = ad j := h_r13
      subst h_r13
      refine va_get (D := (dC, dI)) (ci := 7) (v := .int (nI (d 2 j))) (C := RCE) (T := TCE) (N := 10) hx hb hz in_CE hown hK hP (12 + j) (zcs_get rfl (by omega)) rfl 2 (by decide) (hz _ wd_261) (fun _ h9 => h9) rfl dWI_measure_40 ?_
      refine lv_iload_n hx hb dWI_measure_43 rfl (lv_at hl 1 rfl) ?_
      have t14 := hd 2 j (by omega)
      have t15 := nI_toInt (n := d 2 j) (by omega)
      have t16 := nI_toInt (n := i) (by omega)
      refine lv_icmp_ne (tgt := 58) hx hb dWI_measure_44 rfl (fun h17 => ?_) (fun h17 => ?_)
      · have h17 := z_ne h17
        refine lv_iinc (k := 0) (v := nI (j + 1)) hx hb dWI_measure_58 hl rfl (by rw [show Int32.ofInt 1 = nI 1 from by decide]; exact nI_add _ _) (Nat.le_of_ble_eq_true rfl) rfl (fun ls hl => ?_)
        have hl : lv_has ls 5 [(4, .int (nI (j + 1))), (3, .int (nI i)), (2, .int (nI gp)), (1, .ref g), (0, .ref wd)] := hl
        refine lv_goto (tgt := 25) hx hb dWI_measure_61 rfl ?_
        exact jh (c_0, c_1, c_2, c_3) ls H locs ⟨lv_sub hl [0, 1, 2, 3, 4] rfl, hP, hD, hS⟩
      · have h17 := z_eq h17
        refine lv_aload_n hx hb dWI_measure_47 rfl (lv_at hl 4 rfl) ?_
        refine lv_aload_n hx hb dWI_measure_48 rfl (lv_at hl 3 rfl) ?_
        refine lv_iload hx hb dWI_measure_49 (lv_at hl 0 rfl) ?_
        refine va_csr (W.runV (As := [.int (nI j)]) (rest := [.ref wd]) ⟨hx, hb, hml, hown, hz⟩ (f_GR_cellAt l dC dI g gr gs bg re ce al ed cE cap a mo n ad d j (by omega) (by omega) (ha) (hd) (hg) (by omega)) (cwV 1 hz (z_gV wd_465 wd_360 wd_361 wd_30 wd_362) rfl rfl rfl (by decide +kernel) ⟨Nat.le_of_ble_eq_true rfl, Nat.le_of_ble_eq_true rfl⟩) (zr_preV hK (zt_sub hP [9, 10, 11] rfl) (va_recv (q0 := 9) hK hP (q := (RGR, TGR, 6)) rfl rfl) [4] rfl z_true (fun _ _ _ => trivial)) rfl rfl hl.1 rfl (lv_room (Nat.le_of_ble_eq_true rfl)) dWI_measure_51 ⟨Nat.le_of_ble_eq_true rfl, Nat.le_of_ble_eq_true rfl⟩) (fun r18 h_r18 => ?_)
        have h_r18 : r18 = ad j := h_r18
        subst h_r18
        refine lv_iload_n hx hb dWI_measure_54 rfl (lv_at hl 2 rfl) ?_
        refine zw_callTv (wr := [zob g 1 [.ref al, .int (nI gr), .int (nI gs), .int (nI bg), .int (nI re), .int (nI ce)], zob al 2 [.ref ed, .int (nI n), .int mo], zrf ed cE cap a]) hK hP hD hS hA [0, 1, 2, 3, 4, 5, 6, 7, 8] [9, 10, 11] rfl rfl (by decide) (by decide) (va_runV (As := [.ref (ad j), .int (nI gp)]) (rest := []) ⟨hx, hb, hml, hown, hz⟩ ((f_WI_fit l dC dI wd l0 l1 l2 l3 p0 p1 p2 p3 kp0 kp1 kp2 kp3 c_0 c_1 c_2 c_3 n ad d j gp (by omega) (hd) (hL)) H.size) (cwV 2 hz (z_gV wd_466 wd_468 wd_9 wd_34 wd_469) rfl rfl rfl (by decide +kernel) ⟨Nat.le_of_ble_eq_true rfl, Nat.le_of_ble_eq_true rfl⟩) (zw_preVT hK hP hD (va_recv (q0 := 0) hK hP (q := (RWI, TWI, 4)) rfl rfl) [0, 1, 2, 3, 4, 5, 6, 7, 8] (by decide) rfl [0, 1, 2, 3] rfl z_true (fun _ _ _ => trivial)) rfl rfl hl.1 rfl (lv_room (Nat.le_of_ble_eq_true rfl)) dWI_measure_55 ⟨Nat.le_of_ble_eq_true rfl, Nat.le_of_ble_eq_true rfl⟩) (fun u H locs h_r23 hP hD hK hS => ?_)
        obtain ⟨u_19, u_20, u_21, u_22⟩ := u
        have hP : va_P (dC, dI) vwCl ([zob wd 3 [.ref l0, .ref l1, .ref l2, .ref l3], zob l0 4 [.ref p0], zob l1 4 [.ref p1], zob l2 4 [.ref p2], zob l3 4 [.ref p3], zar p0 kp0 12 u_19, zar p1 kp1 12 u_20, zar p2 kp2 12 u_21, zar p3 kp3 12 u_22, zob g 1 [.ref al, .int (nI gr), .int (nI gs), .int (nI bg), .int (nI re), .int (nI ce)], zob al 2 [.ref ed, .int (nI n), .int mo], zrf ed cE cap a] ++ zcs n ad (zcf d)) H := zt_sub hP [3, 4, 5, 6, 7, 8, 9, 10, 11, 0, 1, 2] rfl
        have hD : va_D A ([zob wd 3 [.ref l0, .ref l1, .ref l2, .ref l3], zob l0 4 [.ref p0], zob l1 4 [.ref p1], zob l2 4 [.ref p2], zob l3 4 [.ref p3], zar p0 kp0 12 u_19, zar p1 kp1 12 u_20, zar p2 kp2 12 u_21, zar p3 kp3 12 u_22, zob g 1 [.ref al, .int (nI gr), .int (nI gs), .int (nI bg), .int (nI re), .int (nI ce)], zob al 2 [.ref ed, .int (nI n), .int mo], zrf ed cE cap a] ++ zcs n ad (zcf d)) := zt_subD hD [3, 4, 5, 6, 7, 8, 9, 10, 11, 0, 1, 2] (by decide) rfl
        have hK : va_K (dC, dI) vwCl [(kp0, .int), (kp1, .int), (kp2, .int), (kp3, .int), (cE, .object "java/lang/Object")] s := hK
        refine lv_iinc (k := 0) (v := nI (j + 1)) hx hb dWI_measure_58 hl rfl (by rw [show Int32.ofInt 1 = nI 1 from by decide]; exact nI_add _ _) (Nat.le_of_ble_eq_true rfl) rfl (fun ls hl => ?_)
        have hl : lv_has ls 5 [(4, .int (nI (j + 1))), (3, .int (nI i)), (2, .int (nI gp)), (1, .ref g), (0, .ref wd)] := hl
        refine lv_goto (tgt := 25) hx hb dWI_measure_61 rfl ?_
        exact jh (u_19, u_20, u_21, u_22) ls H locs ⟨lv_sub hl [0, 1, 2, 3, 4] rfl, hP, hD, hS⟩
