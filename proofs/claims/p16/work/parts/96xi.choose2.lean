set_option maxHeartbeats 4000000 in
set_option maxRecDepth 100000 in
theorem x_WI_chooseByMeasures (l : Launch) (dC : Nat → ClassId) (dI : Nat → Nat → Nat) (T : va_W) (wd : Nat) (l0 : Nat) (l1 : Nat) (l2 : Nat) (l3 : Nat) (p0 : Nat) (p1 : Nat) (p2 : Nat) (p3 : Nat) (kp0 : ClassId) (kp1 : ClassId) (kp2 : ClassId) (kp3 : ClassId) (L : Nat → Nat) (M : Nat → Nat) (g2 : Nat → Int32) (g3 : Nat → Int32) (cs : Nat) (rm : Nat) (hcs : cs ≤ 12) (hc0 : 0 < cs) (hLb : ∀ q, L q ≤ 20000) (hMb : ∀ q, M q ≤ 20000) (hLM : ∀ q, L q ≤ M q) (hrm : rm ≤ 20000) : zw_Mv (S := (Nat → Nat) × (Nat → Int32)) l yWI_chooseByMeasures wWI_chooseByMeasures ({ frames := 2, cells := 0, slots := 0, locals := 55 }) [.ref wd, .int (nI cs), .int (nI rm)] (dC, dI) vwCl ([zob wd 3 [.ref l0, .ref l1, .ref l2, .ref l3], zob l0 4 [.ref p0], zob l1 4 [.ref p1], zob l2 4 [.ref p2], zob l3 4 [.ref p3], zar p0 kp0 12 (fun j => nI (L j)), zar p1 kp1 12 (fun j => nI (M j)), zar p2 kp2 12 g2, zar p3 kp3 12 g3] ++ T) [(kp0, .int), (kp1, .int), (kp2, .int), (kp3, .int)] (fun _ _ => True) (fun u => match u with | (u2, u3) => u2 = zCh L M cs rm) (fun u => match u with | (u2, u3) => ([zob wd 3 [.ref l0, .ref l1, .ref l2, .ref l3], zob l0 4 [.ref p0], zob l1 4 [.ref p1], zob l2 4 [.ref p2], zob l3 4 [.ref p3], zar p0 kp0 12 (fun j => nI (L j)), zar p1 kp1 12 (fun j => nI (M j)), zar p2 kp2 12 (fun j => nI (u2 j)), zar p3 kp3 12 u3] ++ T)) (fun u => match u with | (u2, u3) => []) 0 0 := by
  refine zw_headv (cc := cWI_chooseByMeasures) (maxL := 5) (ret := none) (by decide +kernel) rfl (Nat.le_of_ble_eq_true rfl) ?_
  intro p e s m below meth c ls A F hnm hA hP hK hD hS hX hl
  obtain ⟨hx, hb, hml, hr, hlocks, hown, hts⟩ := F
  have hown : s.vm.findClass "SpannedCells$Widths" = some m.cls := hown
  have hz : ∀ w9 ∈ zT, w9.before [.ref wd, .int (nI cs), .int (nI rm)].toArray s = true := fun w9 h => hts w9 (List.mem_cons_of_mem _ h)
  have hl : lv_has ls 5 [(0, .ref wd), (1, .int (nI cs)), (2, .int (nI rm))] := hl
  refine z_q (fun Q hQ => ?_)
  have hS0 := zRs_12 (f := L) (i0 := 0) (e := cs) hLb (by omega)
  have hS1 := zRs_12 (f := M) (i0 := 0) (e := cs) hMb (by omega)
  refine lv_aload_n hx hb dWI_chooseByMeasures_0 rfl (lv_at hl 0 rfl) ?_
  refine va_get (D := (dC, dI)) (ci := 3) (v := .ref l0) (C := RWI) (T := TWI) (N := 4) hx hb hz in_WI hown hK hP 0 rfl rfl 0 (by decide) (hz _ wd_121) (fun _ h9 => h9) rfl dWI_chooseByMeasures_1 ?_
  refine lv_iconst (v := nI 0) hx hb dWI_chooseByMeasures_4 (by decide) ?_
  refine lv_iload_n hx hb dWI_chooseByMeasures_5 rfl (lv_at hl 1 rfl) ?_
  refine vp_callSi (W.runV (As := [.int (nI 0), .int (nI cs)]) (rest := []) ⟨hx, hb, hml, hown, hz⟩ (x_LI_sum l dC dI l0 p0 kp0 (fun j => nI (L j)) L 0 cs (by omega) (by omega) (fun _ _ _ => rfl)) (cwV 2 hz (z_gV wd_507 wd_480 wd_481 wd_35 wd_482) rfl rfl rfl (by decide +kernel) ⟨Nat.le_of_ble_eq_true rfl, Nat.le_of_ble_eq_true rfl⟩) (zr_preV hK (hP.sub [1, 5] rfl) (va_recv (q0 := 1) hK hP (q := (RLI, TLI, 1)) rfl rfl) [0] rfl z_true (fun _ _ _ => trivial)) rfl rfl hl.1 rfl (lv_room (Nat.le_of_ble_eq_true rfl)) dWI_chooseByMeasures_6 ⟨Nat.le_of_ble_eq_true rfl, Nat.le_of_ble_eq_true rfl⟩) (fun r1 h_r1 => ?_)
  have h_r1 : r1 = nI (zRs L 0 cs) := h_r1
  subst h_r1
  refine lv_istore_n hx hb dWI_chooseByMeasures_9 rfl hl (Nat.le_of_ble_eq_true rfl) rfl (fun ls hl => ?_)
  have hl : lv_has ls 5 [(3, .int (nI (zRs L 0 cs))), (0, .ref wd), (1, .int (nI cs)), (2, .int (nI rm))] := hl
  refine lv_aload_n hx hb dWI_chooseByMeasures_10 rfl (lv_at hl 1 rfl) ?_
  refine va_get (D := (dC, dI)) (ci := 3) (v := .ref l1) (C := RWI) (T := TWI) (N := 4) hx hb hz in_WI hown hK hP 0 rfl rfl 1 (by decide) (hz _ wd_123) (fun _ h9 => h9) rfl dWI_chooseByMeasures_11 ?_
  refine lv_iconst (v := nI 0) hx hb dWI_chooseByMeasures_14 (by decide) ?_
  refine lv_iload_n hx hb dWI_chooseByMeasures_15 rfl (lv_at hl 2 rfl) ?_
  refine vp_callSi (W.runV (As := [.int (nI 0), .int (nI cs)]) (rest := []) ⟨hx, hb, hml, hown, hz⟩ (x_LI_sum l dC dI l1 p1 kp1 (fun j => nI (M j)) M 0 cs (by omega) (by omega) (fun _ _ _ => rfl)) (cwV 2 hz (z_gV wd_507 wd_480 wd_481 wd_35 wd_482) rfl rfl rfl (by decide +kernel) ⟨Nat.le_of_ble_eq_true rfl, Nat.le_of_ble_eq_true rfl⟩) (zr_preV hK (hP.sub [2, 6] rfl) (va_recv (q0 := 2) hK hP (q := (RLI, TLI, 1)) rfl rfl) [1] rfl z_true (fun _ _ _ => trivial)) rfl rfl hl.1 rfl (lv_room (Nat.le_of_ble_eq_true rfl)) dWI_chooseByMeasures_16 ⟨Nat.le_of_ble_eq_true rfl, Nat.le_of_ble_eq_true rfl⟩) (fun r2 h_r2 => ?_)
  have h_r2 : r2 = nI (zRs M 0 cs) := h_r2
  subst h_r2
  refine lv_istore hx hb dWI_chooseByMeasures_19 hl (Nat.le_of_ble_eq_true rfl) rfl (fun ls hl => ?_)
  have hl : lv_has ls 5 [(4, .int (nI (zRs M 0 cs))), (3, .int (nI (zRs L 0 cs))), (0, .ref wd), (1, .int (nI cs)), (2, .int (nI rm))] := hl
  refine lv_iload_n hx hb dWI_chooseByMeasures_21 rfl (lv_at hl 4 rfl) ?_
  refine lv_iload_n hx hb dWI_chooseByMeasures_22 rfl (lv_at hl 1 rfl) ?_
  have t3 := nI_toInt (n := rm) (by omega)
  have t4 := nI_toInt (n := zRs L 0 cs) (by omega)
  refine lv_icmp_gt (tgt := 40) hx hb dWI_chooseByMeasures_23 rfl (fun h_1 => ?_) (fun h_1 => ?_)
  · have h_1 := z_lt h_1
    refine lv_iload_n hx hb dWI_chooseByMeasures_40 rfl (lv_at hl 4 rfl) ?_
    refine lv_iload hx hb dWI_chooseByMeasures_41 (lv_at hl 0 rfl) ?_
    have t6 := nI_toInt (n := rm) (by omega)
    have t7 := nI_toInt (n := zRs M 0 cs) (by omega)
    refine lv_icmp_gt (tgt := 81) hx hb dWI_chooseByMeasures_43 rfl (fun h_2 => ?_) (fun h_2 => ?_)
    · have h_2 := z_lt h_2
      refine lv_aload_n hx hb dWI_chooseByMeasures_81 rfl (lv_at hl 2 rfl) ?_
      refine va_get (D := (dC, dI)) (ci := 3) (v := .ref l2) (C := RWI) (T := TWI) (N := 4) hx hb hz in_WI hown hK hP 0 rfl rfl 2 (by decide) (hz _ wd_125) (fun _ h9 => h9) rfl dWI_chooseByMeasures_82 ?_
      refine lv_aload_n hx hb dWI_chooseByMeasures_85 rfl (lv_at hl 2 rfl) ?_
      refine va_get (D := (dC, dI)) (ci := 3) (v := .ref l1) (C := RWI) (T := TWI) (N := 4) hx hb hz in_WI hown hK hP 0 rfl rfl 1 (by decide) (hz _ wd_123) (fun _ h9 => h9) rfl dWI_chooseByMeasures_86 ?_
      refine zw_callTv (wr := [zob wd 3 [.ref l0, .ref l1, .ref l2, .ref l3], zob l0 4 [.ref p0], zob l3 4 [.ref p3], zar p0 kp0 12 (fun j => nI (L j)), zar p3 kp3 12 g3]) hK hP hD hS hA [3, 7, 2, 6] [0, 1, 4, 5, 8] rfl rfl (by decide) (by decide) (va_runV (As := [.ref l1]) (rest := []) ⟨hx, hb, hml, hown, hz⟩ ((x_LI_copyOf l dC dI T l2 p2 kp2 g2 l1 p1 kp1 M ) s.heap.size) (cwV 1 hz (z_gV wd_513 wd_514 wd_515 wd_35 wd_516) rfl rfl rfl (by decide +kernel) ⟨Nat.le_of_ble_eq_true rfl, Nat.le_of_ble_eq_true rfl⟩) (zw_preVT hK hP hD (va_recv (q0 := 3) hK hP (q := (RLI, TLI, 1)) rfl rfl) [3, 7, 2, 6] (by decide) rfl [2, 1] rfl z_true (fun _ _ _ => trivial)) rfl rfl hl.1 rfl (lv_room (Nat.le_of_ble_eq_true rfl)) dWI_chooseByMeasures_89 ⟨Nat.le_of_ble_eq_true rfl, Nat.le_of_ble_eq_true rfl⟩) (fun u H locs h_r9 hP hD hK hS => ?_)
      have hP : va_P (dC, dI) vwCl ([zob wd 3 [.ref l0, .ref l1, .ref l2, .ref l3], zob l0 4 [.ref p0], zob l1 4 [.ref p1], zob l2 4 [.ref p2], zob l3 4 [.ref p3], zar p0 kp0 12 (fun j => nI (L j)), zar p1 kp1 12 (fun j => nI (M j)), zar p2 kp2 12 (fun j => nI (M j)), zar p3 kp3 12 g3] ++ T) H := zt_sub hP [0, 1, 7, 5, 2, 3, 8, 6, 4] rfl
      have hD : va_D A ([zob wd 3 [.ref l0, .ref l1, .ref l2, .ref l3], zob l0 4 [.ref p0], zob l1 4 [.ref p1], zob l2 4 [.ref p2], zob l3 4 [.ref p3], zar p0 kp0 12 (fun j => nI (L j)), zar p1 kp1 12 (fun j => nI (M j)), zar p2 kp2 12 (fun j => nI (M j)), zar p3 kp3 12 g3] ++ T) := zt_subD hD [0, 1, 7, 5, 2, 3, 8, 6, 4] (by decide) rfl
      have hK : va_K (dC, dI) vwCl [(kp0, .int), (kp1, .int), (kp2, .int), (kp3, .int)] s := hK
      refine lv_aload_n hx hb dWI_chooseByMeasures_92 rfl (lv_at hl 2 rfl) ?_
      refine va_get (D := (dC, dI)) (ci := 3) (v := .ref l2) (C := RWI) (T := TWI) (N := 4) hx hb hz in_WI hown hK hP 0 rfl rfl 2 (by decide) (hz _ wd_125) (fun _ h9 => h9) rfl dWI_chooseByMeasures_93 ?_
      refine lv_iload_n hx hb dWI_chooseByMeasures_96 rfl (lv_at hl 4 rfl) ?_
      refine lv_iload hx hb dWI_chooseByMeasures_97 (lv_at hl 0 rfl) ?_
      refine lv_isub hx hb dWI_chooseByMeasures_99 ?_
      refine lv_topi (fun x10 e11 => ?_)
      have e11 : x10 = nI (rm - (zRs M 0 cs)) := e11.trans (pk_sub (by omega))
      subst e11
      refine lv_aload_n hx hb dWI_chooseByMeasures_100 rfl (lv_at hl 2 rfl) ?_
      refine va_get (D := (dC, dI)) (ci := 3) (v := .ref l1) (C := RWI) (T := TWI) (N := 4) hx hb hz in_WI hown hK hP 0 rfl rfl 1 (by decide) (hz _ wd_123) (fun _ h9 => h9) rfl dWI_chooseByMeasures_101 ?_
      refine lv_iconst (v := nI 0) hx hb dWI_chooseByMeasures_104 (by decide) ?_
      refine lv_iload_n hx hb dWI_chooseByMeasures_105 rfl (lv_at hl 3 rfl) ?_
      refine zw_callTv (wr := [zob wd 3 [.ref l0, .ref l1, .ref l2, .ref l3], zob l0 4 [.ref p0], zob l3 4 [.ref p3], zar p0 kp0 12 (fun j => nI (L j)), zar p3 kp3 12 g3]) hK hP hD hS hA [3, 7, 2, 6] [0, 1, 4, 5, 8] rfl rfl (by decide) (by decide) (va_runV (As := [.int (nI (rm - (zRs M 0 cs))), .ref l1, .int (nI 0), .int (nI cs)]) (rest := []) ⟨hx, hb, hml, hown, hz⟩ ((x_LI_shareOut l dC dI T l2 p2 kp2 M l1 p1 kp1 (fun j => nI (M j)) M (rm - (zRs M 0 cs)) 0 cs (by omega) (by omega) (by omega) (hMb) (hMb) (fun _ _ _ => rfl) (by omega)) H.size) (cwV 4 hz (z_gV wd_506 wd_484 wd_485 wd_35 wd_486) rfl rfl rfl (by decide +kernel) ⟨Nat.le_of_ble_eq_true rfl, Nat.le_of_ble_eq_true rfl⟩) (zw_preVT hK hP hD (va_recv (q0 := 3) hK hP (q := (RLI, TLI, 1)) rfl rfl) [3, 7, 2, 6] (by decide) rfl [2, 1] rfl z_true (fun _ _ _ => trivial)) rfl rfl hl.1 rfl (lv_room (Nat.le_of_ble_eq_true rfl)) dWI_chooseByMeasures_106 ⟨Nat.le_of_ble_eq_true rfl, Nat.le_of_ble_eq_true rfl⟩) (fun u H locs h_sh hP hD hK hS => ?_)
      obtain ⟨C_2, rfl⟩ : ∃ z, z = u := ⟨_, rfl⟩
      have hP : va_P (dC, dI) vwCl ([zob wd 3 [.ref l0, .ref l1, .ref l2, .ref l3], zob l0 4 [.ref p0], zob l1 4 [.ref p1], zob l2 4 [.ref p2], zob l3 4 [.ref p3], zar p0 kp0 12 (fun j => nI (L j)), zar p1 kp1 12 (fun j => nI (M j)), zar p2 kp2 12 (fun j => nI (C_2 j)), zar p3 kp3 12 g3] ++ T) H := zt_sub hP [0, 1, 7, 5, 2, 3, 8, 6, 4] rfl
      have hD : va_D A ([zob wd 3 [.ref l0, .ref l1, .ref l2, .ref l3], zob l0 4 [.ref p0], zob l1 4 [.ref p1], zob l2 4 [.ref p2], zob l3 4 [.ref p3], zar p0 kp0 12 (fun j => nI (L j)), zar p1 kp1 12 (fun j => nI (M j)), zar p2 kp2 12 (fun j => nI (C_2 j)), zar p3 kp3 12 g3] ++ T) := zt_subD hD [0, 1, 7, 5, 2, 3, 8, 6, 4] (by decide) rfl
      have hK : va_K (dC, dI) vwCl [(kp0, .int), (kp1, .int), (kp2, .int), (kp3, .int)] s := hK
      have h_sh : C_2 = zShr M M (rm - (zRs M 0 cs)) 0 cs := h_sh
      subst hQ
      exact zw_vret (D := (dC, dI)) (cl := vwCl) (A := A) (C_2, g3) hx hb hr hlocks (h_sh.trans (zCh_3 (by omega) (by omega)).symm) (zt_sub hP [0, 1, 2, 3, 4, 5, 6, 7, 8] rfl) (hK.sub [] rfl) (zt_subD hD [0, 1, 2, 3, 4, 5, 6, 7, 8] (by decide) rfl) hS dWI_chooseByMeasures_109
    · have h_2 := z_nlt h_2
      refine lv_aload_n hx hb dWI_chooseByMeasures_46 rfl (lv_at hl 2 rfl) ?_
      refine lv_iload_n hx hb dWI_chooseByMeasures_47 rfl (lv_at hl 3 rfl) ?_
      refine zw_callTv (wr := []) hK hP hD hS hA [0, 1, 2, 3, 4, 5, 6, 7, 8] [] rfl rfl (by decide) (by decide) (va_runV (As := [.int (nI cs)]) (rest := []) ⟨hx, hb, hml, hown, hz⟩ ((x_WI_weighByScope l dC dI T wd l0 l1 l2 l3 p0 p1 p2 p3 kp0 kp1 kp2 kp3 L M g2 g3 cs (by omega) (hLM)) s.heap.size) (cwV 1 hz (z_gV wd_518 wd_520 wd_11 wd_34 wd_521) rfl rfl rfl (by decide +kernel) ⟨Nat.le_of_ble_eq_true rfl, Nat.le_of_ble_eq_true rfl⟩) (zw_preVT hK hP hD (va_recv (q0 := 0) hK hP (q := (RWI, TWI, 4)) rfl rfl) [0, 1, 2, 3, 4, 5, 6, 7, 8] (by decide) rfl [0, 1, 2, 3] rfl z_true (fun _ _ _ => trivial)) rfl rfl hl.1 rfl (lv_room (Nat.le_of_ble_eq_true rfl)) dWI_chooseByMeasures_48 ⟨Nat.le_of_ble_eq_true rfl, Nat.le_of_ble_eq_true rfl⟩) (fun u H locs h_ws hP hD hK hS => ?_)
      obtain ⟨s_3, rfl⟩ : ∃ z, z = u := ⟨_, rfl⟩
      have hP : va_P (dC, dI) vwCl ([zob wd 3 [.ref l0, .ref l1, .ref l2, .ref l3], zob l0 4 [.ref p0], zob l1 4 [.ref p1], zob l2 4 [.ref p2], zob l3 4 [.ref p3], zar p0 kp0 12 (fun j => nI (L j)), zar p1 kp1 12 (fun j => nI (M j)), zar p2 kp2 12 g2, zar p3 kp3 12 s_3] ++ T) H := zt_sub hP [0, 1, 2, 3, 4, 5, 6, 7, 8] rfl
      have hD : va_D A ([zob wd 3 [.ref l0, .ref l1, .ref l2, .ref l3], zob l0 4 [.ref p0], zob l1 4 [.ref p1], zob l2 4 [.ref p2], zob l3 4 [.ref p3], zar p0 kp0 12 (fun j => nI (L j)), zar p1 kp1 12 (fun j => nI (M j)), zar p2 kp2 12 g2, zar p3 kp3 12 s_3] ++ T) := zt_subD hD [0, 1, 2, 3, 4, 5, 6, 7, 8] (by decide) rfl
      have hK : va_K (dC, dI) vwCl [(kp0, .int), (kp1, .int), (kp2, .int), (kp3, .int)] s := hK
      have h_ws : ∀ q, q < cs → s_3 q = nI (zMl M L q) := h_ws
      refine lv_aload_n hx hb dWI_chooseByMeasures_51 rfl (lv_at hl 2 rfl) ?_
      refine va_get (D := (dC, dI)) (ci := 3) (v := .ref l2) (C := RWI) (T := TWI) (N := 4) hx hb hz in_WI hown hK hP 0 rfl rfl 2 (by decide) (hz _ wd_125) (fun _ h9 => h9) rfl dWI_chooseByMeasures_52 ?_
      refine lv_aload_n hx hb dWI_chooseByMeasures_55 rfl (lv_at hl 2 rfl) ?_
      refine va_get (D := (dC, dI)) (ci := 3) (v := .ref l0) (C := RWI) (T := TWI) (N := 4) hx hb hz in_WI hown hK hP 0 rfl rfl 0 (by decide) (hz _ wd_121) (fun _ h9 => h9) rfl dWI_chooseByMeasures_56 ?_
      refine zw_callTv (wr := [zob wd 3 [.ref l0, .ref l1, .ref l2, .ref l3], zob l1 4 [.ref p1], zob l3 4 [.ref p3], zar p1 kp1 12 (fun j => nI (M j)), zar p3 kp3 12 s_3]) hK hP hD hS hA [3, 7, 1, 5] [0, 2, 4, 6, 8] rfl rfl (by decide) (by decide) (va_runV (As := [.ref l0]) (rest := []) ⟨hx, hb, hml, hown, hz⟩ ((x_LI_copyOf l dC dI T l2 p2 kp2 g2 l0 p0 kp0 L ) H.size) (cwV 1 hz (z_gV wd_513 wd_514 wd_515 wd_35 wd_516) rfl rfl rfl (by decide +kernel) ⟨Nat.le_of_ble_eq_true rfl, Nat.le_of_ble_eq_true rfl⟩) (zw_preVT hK hP hD (va_recv (q0 := 3) hK hP (q := (RLI, TLI, 1)) rfl rfl) [3, 7, 1, 5] (by decide) rfl [2, 0] rfl z_true (fun _ _ _ => trivial)) rfl rfl hl.1 rfl (lv_room (Nat.le_of_ble_eq_true rfl)) dWI_chooseByMeasures_59 ⟨Nat.le_of_ble_eq_true rfl, Nat.le_of_ble_eq_true rfl⟩) (fun u H locs h_r12 hP hD hK hS => ?_)
      have hP : va_P (dC, dI) vwCl ([zob wd 3 [.ref l0, .ref l1, .ref l2, .ref l3], zob l0 4 [.ref p0], zob l1 4 [.ref p1], zob l2 4 [.ref p2], zob l3 4 [.ref p3], zar p0 kp0 12 (fun j => nI (L j)), zar p1 kp1 12 (fun j => nI (M j)), zar p2 kp2 12 (fun j => nI (L j)), zar p3 kp3 12 s_3] ++ T) H := zt_sub hP [0, 7, 1, 5, 2, 8, 3, 6, 4] rfl
      have hD : va_D A ([zob wd 3 [.ref l0, .ref l1, .ref l2, .ref l3], zob l0 4 [.ref p0], zob l1 4 [.ref p1], zob l2 4 [.ref p2], zob l3 4 [.ref p3], zar p0 kp0 12 (fun j => nI (L j)), zar p1 kp1 12 (fun j => nI (M j)), zar p2 kp2 12 (fun j => nI (L j)), zar p3 kp3 12 s_3] ++ T) := zt_subD hD [0, 7, 1, 5, 2, 8, 3, 6, 4] (by decide) rfl
      have hK : va_K (dC, dI) vwCl [(kp0, .int), (kp1, .int), (kp2, .int), (kp3, .int)] s := hK
      refine lv_aload_n hx hb dWI_chooseByMeasures_62 rfl (lv_at hl 2 rfl) ?_
      refine va_get (D := (dC, dI)) (ci := 3) (v := .ref l2) (C := RWI) (T := TWI) (N := 4) hx hb hz in_WI hown hK hP 0 rfl rfl 2 (by decide) (hz _ wd_125) (fun _ h9 => h9) rfl dWI_chooseByMeasures_63 ?_
      refine lv_iload_n hx hb dWI_chooseByMeasures_66 rfl (lv_at hl 4 rfl) ?_
      refine lv_iload_n hx hb dWI_chooseByMeasures_67 rfl (lv_at hl 1 rfl) ?_
      refine lv_isub hx hb dWI_chooseByMeasures_68 ?_
      refine lv_topi (fun x13 e14 => ?_)
      have e14 : x13 = nI (rm - (zRs L 0 cs)) := e14.trans (pk_sub (by omega))
      subst e14
      refine lv_aload_n hx hb dWI_chooseByMeasures_69 rfl (lv_at hl 2 rfl) ?_
      refine va_get (D := (dC, dI)) (ci := 3) (v := .ref l3) (C := RWI) (T := TWI) (N := 4) hx hb hz in_WI hown hK hP 0 rfl rfl 3 (by decide) (hz _ wd_127) (fun _ h9 => h9) rfl dWI_chooseByMeasures_70 ?_
      refine lv_iconst (v := nI 0) hx hb dWI_chooseByMeasures_73 (by decide) ?_
      refine lv_iload_n hx hb dWI_chooseByMeasures_74 rfl (lv_at hl 3 rfl) ?_
      refine zw_callTv (wr := [zob wd 3 [.ref l0, .ref l1, .ref l2, .ref l3], zob l0 4 [.ref p0], zob l1 4 [.ref p1], zar p0 kp0 12 (fun j => nI (L j)), zar p1 kp1 12 (fun j => nI (M j))]) hK hP hD hS hA [3, 7, 4, 8] [0, 1, 2, 5, 6] rfl rfl (by decide) (by decide) (va_runV (As := [.int (nI (rm - (zRs L 0 cs))), .ref l3, .int (nI 0), .int (nI cs)]) (rest := []) ⟨hx, hb, hml, hown, hz⟩ ((x_LI_shareOut l dC dI T l2 p2 kp2 L l3 p3 kp3 s_3 (zMl M L) (rm - (zRs L 0 cs)) 0 cs (by omega) (by omega) (by omega) (hLb) (zMl_le hMb) (fun q _ h9 => h_ws q h9) (by omega)) H.size) (cwV 4 hz (z_gV wd_506 wd_484 wd_485 wd_35 wd_486) rfl rfl rfl (by decide +kernel) ⟨Nat.le_of_ble_eq_true rfl, Nat.le_of_ble_eq_true rfl⟩) (zw_preVT hK hP hD (va_recv (q0 := 3) hK hP (q := (RLI, TLI, 1)) rfl rfl) [3, 7, 4, 8] (by decide) rfl [2, 3] rfl z_true (fun _ _ _ => trivial)) rfl rfl hl.1 rfl (lv_room (Nat.le_of_ble_eq_true rfl)) dWI_chooseByMeasures_75 ⟨Nat.le_of_ble_eq_true rfl, Nat.le_of_ble_eq_true rfl⟩) (fun u H locs h_sh hP hD hK hS => ?_)
      obtain ⟨C_2, rfl⟩ : ∃ z, z = u := ⟨_, rfl⟩
      have hP : va_P (dC, dI) vwCl ([zob wd 3 [.ref l0, .ref l1, .ref l2, .ref l3], zob l0 4 [.ref p0], zob l1 4 [.ref p1], zob l2 4 [.ref p2], zob l3 4 [.ref p3], zar p0 kp0 12 (fun j => nI (L j)), zar p1 kp1 12 (fun j => nI (M j)), zar p2 kp2 12 (fun j => nI (C_2 j)), zar p3 kp3 12 s_3] ++ T) H := zt_sub hP [0, 1, 2, 5, 7, 3, 4, 6, 8] rfl
      have hD : va_D A ([zob wd 3 [.ref l0, .ref l1, .ref l2, .ref l3], zob l0 4 [.ref p0], zob l1 4 [.ref p1], zob l2 4 [.ref p2], zob l3 4 [.ref p3], zar p0 kp0 12 (fun j => nI (L j)), zar p1 kp1 12 (fun j => nI (M j)), zar p2 kp2 12 (fun j => nI (C_2 j)), zar p3 kp3 12 s_3] ++ T) := zt_subD hD [0, 1, 2, 5, 7, 3, 4, 6, 8] (by decide) rfl
      have hK : va_K (dC, dI) vwCl [(kp0, .int), (kp1, .int), (kp2, .int), (kp3, .int)] s := hK
      have h_sh : C_2 = zShr L (zMl M L) (rm - (zRs L 0 cs)) 0 cs := h_sh
      refine lv_goto (tgt := 109) hx hb dWI_chooseByMeasures_78 rfl ?_
      subst hQ
      exact zw_vret (D := (dC, dI)) (cl := vwCl) (A := A) (C_2, s_3) hx hb hr hlocks (h_sh.trans (zCh_2 (by omega) (by omega)).symm) (zt_sub hP [0, 1, 2, 3, 4, 5, 6, 7, 8] rfl) (hK.sub [] rfl) (zt_subD hD [0, 1, 2, 3, 4, 5, 6, 7, 8] (by decide) rfl) hS dWI_chooseByMeasures_109
  · have h_1 := z_nlt h_1
    refine lv_aload_n hx hb dWI_chooseByMeasures_26 rfl (lv_at hl 2 rfl) ?_
    refine va_get (D := (dC, dI)) (ci := 3) (v := .ref l2) (C := RWI) (T := TWI) (N := 4) hx hb hz in_WI hown hK hP 0 rfl rfl 2 (by decide) (hz _ wd_125) (fun _ h9 => h9) rfl dWI_chooseByMeasures_27 ?_
    refine lv_aload_n hx hb dWI_chooseByMeasures_30 rfl (lv_at hl 2 rfl) ?_
    refine va_get (D := (dC, dI)) (ci := 3) (v := .ref l0) (C := RWI) (T := TWI) (N := 4) hx hb hz in_WI hown hK hP 0 rfl rfl 0 (by decide) (hz _ wd_121) (fun _ h9 => h9) rfl dWI_chooseByMeasures_31 ?_
    refine zw_callTv (wr := [zob wd 3 [.ref l0, .ref l1, .ref l2, .ref l3], zob l1 4 [.ref p1], zob l3 4 [.ref p3], zar p1 kp1 12 (fun j => nI (M j)), zar p3 kp3 12 g3]) hK hP hD hS hA [3, 7, 1, 5] [0, 2, 4, 6, 8] rfl rfl (by decide) (by decide) (va_runV (As := [.ref l0]) (rest := []) ⟨hx, hb, hml, hown, hz⟩ ((x_LI_copyOf l dC dI T l2 p2 kp2 g2 l0 p0 kp0 L ) s.heap.size) (cwV 1 hz (z_gV wd_513 wd_514 wd_515 wd_35 wd_516) rfl rfl rfl (by decide +kernel) ⟨Nat.le_of_ble_eq_true rfl, Nat.le_of_ble_eq_true rfl⟩) (zw_preVT hK hP hD (va_recv (q0 := 3) hK hP (q := (RLI, TLI, 1)) rfl rfl) [3, 7, 1, 5] (by decide) rfl [2, 0] rfl z_true (fun _ _ _ => trivial)) rfl rfl hl.1 rfl (lv_room (Nat.le_of_ble_eq_true rfl)) dWI_chooseByMeasures_34 ⟨Nat.le_of_ble_eq_true rfl, Nat.le_of_ble_eq_true rfl⟩) (fun u H locs h_r15 hP hD hK hS => ?_)
    have hP : va_P (dC, dI) vwCl ([zob wd 3 [.ref l0, .ref l1, .ref l2, .ref l3], zob l0 4 [.ref p0], zob l1 4 [.ref p1], zob l2 4 [.ref p2], zob l3 4 [.ref p3], zar p0 kp0 12 (fun j => nI (L j)), zar p1 kp1 12 (fun j => nI (M j)), zar p2 kp2 12 (fun j => nI (L j)), zar p3 kp3 12 g3] ++ T) H := zt_sub hP [0, 7, 1, 5, 2, 8, 3, 6, 4] rfl
    have hD : va_D A ([zob wd 3 [.ref l0, .ref l1, .ref l2, .ref l3], zob l0 4 [.ref p0], zob l1 4 [.ref p1], zob l2 4 [.ref p2], zob l3 4 [.ref p3], zar p0 kp0 12 (fun j => nI (L j)), zar p1 kp1 12 (fun j => nI (M j)), zar p2 kp2 12 (fun j => nI (L j)), zar p3 kp3 12 g3] ++ T) := zt_subD hD [0, 7, 1, 5, 2, 8, 3, 6, 4] (by decide) rfl
    have hK : va_K (dC, dI) vwCl [(kp0, .int), (kp1, .int), (kp2, .int), (kp3, .int)] s := hK
    refine lv_goto (tgt := 109) hx hb dWI_chooseByMeasures_37 rfl ?_
    subst hQ
    exact zw_vret (D := (dC, dI)) (cl := vwCl) (A := A) (L, g3) hx hb hr hlocks ((zCh_1 (by omega)).symm) (zt_sub hP [0, 1, 2, 3, 4, 5, 6, 7, 8] rfl) (hK.sub [] rfl) (zt_subD hD [0, 1, 2, 3, 4, 5, 6, 7, 8] (by decide) rfl) hS dWI_chooseByMeasures_109
