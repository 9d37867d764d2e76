set_option maxHeartbeats 4000000 in
set_option maxRecDepth 100000 in
theorem f_WI_weighByScope (l : Launch) (dC : Nat → ClassId) (dI : Nat → Nat → Nat) (T : va_W) (wd : Nat) (l0 : Nat) (l1 : Nat) (l2 : Nat) (l3 : Nat) (p0 : Nat) (p1 : Nat) (p2 : Nat) (p3 : Nat) (kp0 : ClassId) (kp1 : ClassId) (kp2 : ClassId) (kp3 : ClassId) (g0 : Nat → Int32) (g1 : Nat → Int32) (g2 : Nat → Int32) (g3 : Nat → Int32) (cs : Nat) (hcs : cs ≤ 12) : zw_Mv (S := (Nat → Int32) × (Nat → Int32) × (Nat → Int32) × (Nat → Int32)) l yWI_weighByScope wWI_weighByScope ({ frames := 1, cells := 0, slots := 0, locals := 22 }) [.ref wd, .int (nI cs)] (dC, dI) vwCl ([zob wd 3 [.ref l0, .ref l1, .ref l2, .ref l3], zob l0 4 [.ref p0], zob l1 4 [.ref p1], zob l2 4 [.ref p2], zob l3 4 [.ref p3], zar p0 kp0 12 g0, zar p1 kp1 12 g1, zar p2 kp2 12 g2, zar p3 kp3 12 g3] ++ T) [(kp0, .int), (kp1, .int), (kp2, .int), (kp3, .int)] (fun _ _ => True) (fun u => match u with | (u0, u1, u2, u3) => True) (fun u => match u with | (u0, u1, u2, u3) => ([zob wd 3 [.ref l0, .ref l1, .ref l2, .ref l3], zob l0 4 [.ref p0], zob l1 4 [.ref p1], zob l2 4 [.ref p2], zob l3 4 [.ref p3], zar p0 kp0 12 u0, zar p1 kp1 12 u1, zar p2 kp2 12 u2, zar p3 kp3 12 u3] ++ T)) (fun u => match u with | (u0, u1, u2, u3) => []) 0 0 := by
  refine zw_headv (cc := cWI_weighByScope) (maxL := 3) (ret := none) (by decide +kernel) rfl (Nat.le_of_ble_eq_true rfl) ?_
  intro p e s m below meth c ls A F hnm hA hP hK hD hS hX hl
  obtain ⟨hx, hb, hml, hr, hlocks, hown, hts⟩ := F
  have hown : s.vm.findClass "SpannedCells$Widths" = some m.cls := hown
  have hz : ∀ w9 ∈ zT, w9.before [.ref wd, .int (nI cs)].toArray s = true := fun w9 h => hts w9 (List.mem_cons_of_mem _ h)
  have hl : lv_has ls 3 [(0, .ref wd), (1, .int (nI cs))] := hl
  refine z_q (fun Q hQ => ?_)
  refine lv_iconst (v := nI 0) hx hb dWI_weighByScope_0 (by decide) ?_
  refine lv_istore_n hx hb dWI_weighByScope_1 rfl hl (Nat.le_of_ble_eq_true rfl) rfl (fun ls hl => ?_)
  have hl : lv_has ls 3 [(2, .int (nI 0)), (0, .ref wd), (1, .int (nI cs))] := hl
  refine zl_upW (σ := (Nat → Int32)) cs (fun i fo ls H locs => lv_has ls 3 [(2, .int (nI i)), (1, .int (nI cs)), (0, .ref wd)] ∧ va_P (dC, dI) vwCl ([zob wd 3 [.ref l0, .ref l1, .ref l2, .ref l3], zob l0 4 [.ref p0], zob l1 4 [.ref p1], zob l2 4 [.ref p2], zob l3 4 [.ref p3], zar p0 kp0 12 g0, zar p1 kp1 12 g1, zar p2 kp2 12 g2, zar p3 kp3 12 fo] ++ T) H ∧ va_D A ([zob wd 3 [.ref l0, .ref l1, .ref l2, .ref l3], zob l0 4 [.ref p0], zob l1 4 [.ref p1], zob l2 4 [.ref p2], zob l3 4 [.ref p3], zar p0 kp0 12 g0, zar p1 kp1 12 g1, zar p2 kp2 12 g2, zar p3 kp3 12 fo] ++ T) ∧ va_S A s.heap H locs) ?_ ?_ 0 (Nat.zero_le _) g3 ls s.heap [] ⟨lv_sub hl [0, 2, 1] rfl, hP, hD, hS⟩
  · intro x9 ls H locs hI
    obtain ⟨fo, rfl⟩ : ∃ z, z = x9 := ⟨_, rfl⟩
    obtain ⟨hl, hP, hD, hS⟩ := hI
    have hl : lv_has ls 3 [(2, .int (nI cs)), (1, .int (nI cs)), (0, .ref wd)] := hl
    have hP : va_P (dC, dI) vwCl ([zob wd 3 [.ref l0, .ref l1, .ref l2, .ref l3], zob l0 4 [.ref p0], zob l1 4 [.ref p1], zob l2 4 [.ref p2], zob l3 4 [.ref p3], zar p0 kp0 12 g0, zar p1 kp1 12 g1, zar p2 kp2 12 g2, zar p3 kp3 12 fo] ++ T) H := hP
    have hD : va_D A ([zob wd 3 [.ref l0, .ref l1, .ref l2, .ref l3], zob l0 4 [.ref p0], zob l1 4 [.ref p1], zob l2 4 [.ref p2], zob l3 4 [.ref p3], zar p0 kp0 12 g0, zar p1 kp1 12 g1, zar p2 kp2 12 g2, zar p3 kp3 12 fo] ++ T) := hD
    refine lv_iload_n hx hb dWI_weighByScope_2 rfl (lv_at hl 0 rfl) ?_
    refine lv_iload_n hx hb dWI_weighByScope_3 rfl (lv_at hl 1 rfl) ?_
    have t1 := nI_toInt (n := cs) (by omega)
    have t2 := nI_toInt (n := cs) (by omega)
    refine lv_icmp_ge (tgt := 38) hx hb dWI_weighByScope_4 rfl (fun _ => ?_) (fun h => by have h := z_nle h; omega)
    subst hQ
    exact zw_vret (D := (dC, dI)) (cl := vwCl) (A := A) (g0, g1, g2, fo) hx hb hr hlocks (trivial) (zt_sub hP [0, 1, 2, 3, 4, 5, 6, 7, 8] rfl) (hK.sub [] rfl) (zt_subD hD [0, 1, 2, 3, 4, 5, 6, 7, 8] (by decide) rfl) hS dWI_weighByScope_38
  · intro i hi ih
    intro x9 ls H locs hI
    obtain ⟨fo, rfl⟩ : ∃ z, z = x9 := ⟨_, rfl⟩
    obtain ⟨hl, hP, hD, hS⟩ := hI
    have hl : lv_has ls 3 [(2, .int (nI i)), (1, .int (nI cs)), (0, .ref wd)] := hl
    have hP : va_P (dC, dI) vwCl ([zob wd 3 [.ref l0, .ref l1, .ref l2, .ref l3], zob l0 4 [.ref p0], zob l1 4 [.ref p1], zob l2 4 [.ref p2], zob l3 4 [.ref p3], zar p0 kp0 12 g0, zar p1 kp1 12 g1, zar p2 kp2 12 g2, zar p3 kp3 12 fo] ++ T) H := hP
    have hD : va_D A ([zob wd 3 [.ref l0, .ref l1, .ref l2, .ref l3], zob l0 4 [.ref p0], zob l1 4 [.ref p1], zob l2 4 [.ref p2], zob l3 4 [.ref p3], zar p0 kp0 12 g0, zar p1 kp1 12 g1, zar p2 kp2 12 g2, zar p3 kp3 12 fo] ++ T) := hD
    refine lv_iload_n hx hb dWI_weighByScope_2 rfl (lv_at hl 0 rfl) ?_
    refine lv_iload_n hx hb dWI_weighByScope_3 rfl (lv_at hl 1 rfl) ?_
    have t3 := nI_toInt (n := i) (by omega)
    have t4 := nI_toInt (n := cs) (by omega)
    refine lv_icmp_ge (tgt := 38) hx hb dWI_weighByScope_4 rfl (fun h => by have h := z_le h; omega) (fun _ => ?_)
    refine lv_aload_n hx hb dWI_weighByScope_7 rfl (lv_at hl 2 rfl) ?_
    refine va_get (D := (dC, dI)) (ci := 3) (v := .ref l3) (C := RWI) (T := TWI) (N := 4) hx hb hz in_WI hown hK hP 0 rfl rfl 3 (by decide) (hz _ wd_127) (fun _ h9 => h9) rfl dWI_weighByScope_8 ?_
    refine lv_iload_n hx hb dWI_weighByScope_11 rfl (lv_at hl 0 rfl) ?_
    refine lv_aload_n hx hb dWI_weighByScope_12 rfl (lv_at hl 2 rfl) ?_
    refine va_get (D := (dC, dI)) (ci := 3) (v := .ref l1) (C := RWI) (T := TWI) (N := 4) hx hb hz in_WI hown hK hP 0 rfl rfl 1 (by decide) (hz _ wd_123) (fun _ h9 => h9) rfl dWI_weighByScope_13 ?_
    refine lv_iload_n hx hb dWI_weighByScope_16 rfl (lv_at hl 0 rfl) ?_
    refine vp_callSi (W.runV (As := [.int (nI i)]) (rest := [.int (nI i), .ref l3]) ⟨hx, hb, hml, hown, hz⟩ (f_LI_sizeOf l dC dI l1 p1 kp1 g1 i (by omega)) (cwV 1 hz (z_gV wd_522 wd_493 wd_494 wd_35 wd_495) rfl rfl rfl (by decide +kernel) ⟨Nat.le_of_ble_eq_true rfl, Nat.le_of_ble_eq_true rfl⟩) (zr_preV hK (hP.sub [2, 6] rfl) (va_recv (q0 := 2) hK hP (q := (RLI, TLI, 1)) rfl rfl) [1] rfl z_true (fun _ _ _ => trivial)) rfl rfl hl.1 rfl (lv_room (Nat.le_of_ble_eq_true rfl)) dWI_weighByScope_17 ⟨Nat.le_of_ble_eq_true rfl, Nat.le_of_ble_eq_true rfl⟩) (fun r5 h_r5 => ?_)
    refine lv_aload_n hx hb dWI_weighByScope_20 rfl (lv_at hl 2 rfl) ?_
    refine va_get (D := (dC, dI)) (ci := 3) (v := .ref l0) (C := RWI) (T := TWI) (N := 4) hx hb hz in_WI hown hK hP 0 rfl rfl 0 (by decide) (hz _ wd_121) (fun _ h9 => h9) rfl dWI_weighByScope_21 ?_
    refine lv_iload_n hx hb dWI_weighByScope_24 rfl (lv_at hl 0 rfl) ?_
    refine vp_callSi (W.runV (As := [.int (nI i)]) (rest := [.int r5, .int (nI i), .ref l3]) ⟨hx, hb, hml, hown, hz⟩ (f_LI_sizeOf l dC dI l0 p0 kp0 g0 i (by omega)) (cwV 1 hz (z_gV wd_522 wd_493 wd_494 wd_35 wd_495) rfl rfl rfl (by decide +kernel) ⟨Nat.le_of_ble_eq_true rfl, Nat.le_of_ble_eq_true rfl⟩) (zr_preV hK (hP.sub [1, 5] rfl) (va_recv (q0 := 1) hK hP (q := (RLI, TLI, 1)) rfl rfl) [0] rfl z_true (fun _ _ _ => trivial)) rfl rfl hl.1 rfl (lv_room (Nat.le_of_ble_eq_true rfl)) dWI_weighByScope_25 ⟨Nat.le_of_ble_eq_true rfl, Nat.le_of_ble_eq_true rfl⟩) (fun r6 h_r6 => ?_)
    refine lv_isub hx hb dWI_weighByScope_28 ?_
    refine lv_topi (fun y7 _ => ?_)
    refine zw_callTv (wr := [zob wd 3 [.ref l0, .ref l1, .ref l2, .ref l3], zob l0 4 [.ref p0], zob l1 4 [.ref p1], zob l2 4 [.ref p2], zar p0 kp0 12 g0, zar p1 kp1 12 g1, zar p2 kp2 12 g2]) hK hP hD hS hA [4, 8] [0, 1, 2, 3, 5, 6, 7] rfl rfl (by decide) (by decide) (va_runV (As := [.int (nI i), .int y7]) (rest := []) ⟨hx, hb, hml, hown, hz⟩ ((f_LI_set l dC dI T l3 p3 kp3 fo i y7 (by omega)) H.size) (cwV 2 hz (z_gV wd_523 wd_524 wd_525 wd_35 wd_526) rfl rfl rfl (by decide +kernel) ⟨Nat.le_of_ble_eq_true rfl, Nat.le_of_ble_eq_true rfl⟩) (zw_preVT hK hP hD (va_recv (q0 := 4) hK hP (q := (RLI, TLI, 1)) rfl rfl) [4, 8] (by decide) rfl [3] rfl z_true (fun _ _ _ => trivial)) rfl rfl hl.1 rfl (lv_room (Nat.le_of_ble_eq_true rfl)) dWI_weighByScope_29 ⟨Nat.le_of_ble_eq_true rfl, Nat.le_of_ble_eq_true rfl⟩) (fun u H locs h_r9 hP hD hK hS => ?_)
    obtain ⟨f_8, rfl⟩ : ∃ z, z = u := ⟨_, rfl⟩
    have hP : va_P (dC, dI) vwCl ([zob wd 3 [.ref l0, .ref l1, .ref l2, .ref l3], zob l0 4 [.ref p0], zob l1 4 [.ref p1], zob l2 4 [.ref p2], zob l3 4 [.ref p3], zar p0 kp0 12 g0, zar p1 kp1 12 g1, zar p2 kp2 12 g2, zar p3 kp3 12 f_8] ++ T) H := zt_sub hP [0, 1, 2, 3, 7, 4, 5, 6, 8] rfl
    have hD : va_D A ([zob wd 3 [.ref l0, .ref l1, .ref l2, .ref l3], zob l0 4 [.ref p0], zob l1 4 [.ref p1], zob l2 4 [.ref p2], zob l3 4 [.ref p3], zar p0 kp0 12 g0, zar p1 kp1 12 g1, zar p2 kp2 12 g2, zar p3 kp3 12 f_8] ++ T) := zt_subD hD [0, 1, 2, 3, 7, 4, 5, 6, 8] (by decide) rfl
    have hK : va_K (dC, dI) vwCl [(kp0, .int), (kp1, .int), (kp2, .int), (kp3, .int)] s := hK
    refine lv_iinc (k := 0) (v := nI (i + 1)) hx hb dWI_weighByScope_32 hl rfl (by rw [show Int32.ofInt 1 = nI 1 from by decide]; exact nI_add _ _) (Nat.le_of_ble_eq_true rfl) rfl (fun ls hl => ?_)
    have hl : lv_has ls 3 [(2, .int (nI (i + 1))), (1, .int (nI cs)), (0, .ref wd)] := hl
    refine lv_goto (tgt := 2) hx hb dWI_weighByScope_35 rfl ?_
    exact ih f_8 ls H locs ⟨lv_sub hl [0, 1, 2] rfl, hP, hD, hS⟩
