set_option maxHeartbeats 4000000 in
set_option maxRecDepth 100000 in
theorem f_WI_chooseByMeasures (l : Launch) (dC : Nat → ClassId) (dI : Nat → Nat → Nat) (T : va_W) (wd : Nat) (l0 : Nat) (l1 : Nat) (l2 : Nat) (l3 : Nat) (p0 : Nat) (p1 : Nat) (p2 : Nat) (p3 : Nat) (kp0 : ClassId) (kp1 : ClassId) (kp2 : ClassId) (kp3 : ClassId) (g0 : Nat → Int32) (g1 : Nat → Int32) (g2 : Nat → Int32) (g3 : Nat → Int32) (cs : Nat) (rm : Int32) (hcs : cs ≤ 12) : zw_Mv (S := (Nat → Int32) × (Nat → Int32) × (Nat → Int32) × (Nat → Int32)) l yWI_chooseByMeasures wWI_chooseByMeasures ({ frames := 2, cells := 0, slots := 0, locals := 55 }) [.ref wd, .int (nI cs), .int rm] (dC, dI) vwCl ([zob wd 3 [.ref l0, .ref l1, .ref l2, .ref l3], zob l0 4 [.ref p0], zob l1 4 [.ref p1], zob l2 4 [.ref p2], zob l3 4 [.ref p3], zar p0 kp0 12 g0, zar p1 kp1 12 g1, zar p2 kp2 12 g2, zar p3 kp3 12 g3] ++ T) [(kp0, .int), (kp1, .int), (kp2, .int), (kp3, .int)] (fun _ _ => True) (fun u => match u with | (u0, u1, u2, u3) => True) (fun u => match u with | (u0, u1, u2, u3) => ([zob wd 3 [.ref l0, .ref l1, .ref l2, .ref l3], zob l0 4 [.ref p0], zob l1 4 [.ref p1], zob l2 4 [.ref p2], zob l3 4 [.ref p3], zar p0 kp0 12 u0, zar p1 kp1 12 u1, zar p2 kp2 12 u2, zar p3 kp3 12 u3] ++ T)) (fun u => match u with | (u0, u1, u2, u3) => []) 0 0 := by
  refine zw_headv (cc := cWI_chooseByMeasures) (maxL := 5) (ret := none) (by decide +kernel) rfl (Nat.le_of_ble_eq_true rfl) ?_
  intro p e s m below meth c ls A F hnm hA hP hK hD hS hX hl
  obtain ⟨hx, hb, hml, hr, hlocks, hown, hts⟩ := F
  have hown : s.vm.findClass "SpannedCells$Widths" = some m.cls := hown
  have hz : ∀ w9 ∈ zT, w9.before [.ref wd, .int (nI cs), .int rm].toArray s = true := fun w9 h => hts w9 (List.mem_cons_of_mem _ h)
  have hl : lv_has ls 5 [(0, .ref wd), (1, .int (nI cs)), (2, .int rm)] := hl
  refine z_q (fun Q hQ => ?_)
  refine lv_aload_n hx hb dWI_chooseByMeasures_0 rfl (lv_at hl 0 rfl) ?_
  refine va_get (D := (dC, dI)) (ci := 3) (v := .ref l0) (C := RWI) (T := TWI) (N := 4) hx hb hz in_WI hown hK hP 0 rfl rfl 0 (by decide) (hz _ wd_121) (fun _ h9 => h9) rfl dWI_chooseByMeasures_1 ?_
  refine lv_iconst (v := nI 0) hx hb dWI_chooseByMeasures_4 (by decide) ?_
  refine lv_iload_n hx hb dWI_chooseByMeasures_5 rfl (lv_at hl 1 rfl) ?_
  refine vp_callSi (W.runV (As := [.int (nI 0), .int (nI cs)]) (rest := []) ⟨hx, hb, hml, hown, hz⟩ (f_LI_sum l dC dI l0 p0 kp0 g0 0 cs (by omega) (by omega)) (cwV 2 hz (z_gV wd_507 wd_480 wd_481 wd_35 wd_482) rfl rfl rfl (by decide +kernel) ⟨Nat.le_of_ble_eq_true rfl, Nat.le_of_ble_eq_true rfl⟩) (zr_preV hK (hP.sub [1, 5] rfl) (va_recv (q0 := 1) hK hP (q := (RLI, TLI, 1)) rfl rfl) [0] rfl z_true (fun _ _ _ => trivial)) rfl rfl hl.1 rfl (lv_room (Nat.le_of_ble_eq_true rfl)) dWI_chooseByMeasures_6 ⟨Nat.le_of_ble_eq_true rfl, Nat.le_of_ble_eq_true rfl⟩) (fun r1 h_r1 => ?_)
  refine lv_istore_n hx hb dWI_chooseByMeasures_9 rfl hl (Nat.le_of_ble_eq_true rfl) rfl (fun ls hl => ?_)
  have hl : lv_has ls 5 [(3, .int r1), (0, .ref wd), (1, .int (nI cs)), (2, .int rm)] := hl
  refine lv_aload_n hx hb dWI_chooseByMeasures_10 rfl (lv_at hl 1 rfl) ?_
  refine va_get (D := (dC, dI)) (ci := 3) (v := .ref l1) (C := RWI) (T := TWI) (N := 4) hx hb hz in_WI hown hK hP 0 rfl rfl 1 (by decide) (hz _ wd_123) (fun _ h9 => h9) rfl dWI_chooseByMeasures_11 ?_
  refine lv_iconst (v := nI 0) hx hb dWI_chooseByMeasures_14 (by decide) ?_
  refine lv_iload_n hx hb dWI_chooseByMeasures_15 rfl (lv_at hl 2 rfl) ?_
  refine vp_callSi (W.runV (As := [.int (nI 0), .int (nI cs)]) (rest := []) ⟨hx, hb, hml, hown, hz⟩ (f_LI_sum l dC dI l1 p1 kp1 g1 0 cs (by omega) (by omega)) (cwV 2 hz (z_gV wd_507 wd_480 wd_481 wd_35 wd_482) rfl rfl rfl (by decide +kernel) ⟨Nat.le_of_ble_eq_true rfl, Nat.le_of_ble_eq_true rfl⟩) (zr_preV hK (hP.sub [2, 6] rfl) (va_recv (q0 := 2) hK hP (q := (RLI, TLI, 1)) rfl rfl) [1] rfl z_true (fun _ _ _ => trivial)) rfl rfl hl.1 rfl (lv_room (Nat.le_of_ble_eq_true rfl)) dWI_chooseByMeasures_16 ⟨Nat.le_of_ble_eq_true rfl, Nat.le_of_ble_eq_true rfl⟩) (fun r2 h_r2 => ?_)
  refine lv_istore hx hb dWI_chooseByMeasures_19 hl (Nat.le_of_ble_eq_true rfl) rfl (fun ls hl => ?_)
  have hl : lv_has ls 5 [(4, .int r2), (3, .int r1), (0, .ref wd), (1, .int (nI cs)), (2, .int rm)] := hl
  refine lv_iload_n hx hb dWI_chooseByMeasures_21 rfl (lv_at hl 4 rfl) ?_
  refine lv_iload_n hx hb dWI_chooseByMeasures_22 rfl (lv_at hl 1 rfl) ?_
  refine lv_icmp_gt (tgt := 40) hx hb dWI_chooseByMeasures_23 rfl (fun h3 => ?_) (fun h3 => ?_)
  · refine lv_iload_n hx hb dWI_chooseByMeasures_40 rfl (lv_at hl 4 rfl) ?_
    refine lv_iload hx hb dWI_chooseByMeasures_41 (lv_at hl 0 rfl) ?_
    refine lv_icmp_gt (tgt := 81) hx hb dWI_chooseByMeasures_43 rfl (fun h4 => ?_) (fun h4 => ?_)
    · refine lv_aload_n hx hb dWI_chooseByMeasures_81 rfl (lv_at hl 2 rfl) ?_
      refine va_get (D := (dC, dI)) (ci := 3) (v := .ref l2) (C := RWI) (T := TWI) (N := 4) hx hb hz in_WI hown hK hP 0 rfl rfl 2 (by decide) (hz _ wd_125) (fun _ h9 => h9) rfl dWI_chooseByMeasures_82 ?_
      refine lv_aload_n hx hb dWI_chooseByMeasures_85 rfl (lv_at hl 2 rfl) ?_
      refine va_get (D := (dC, dI)) (ci := 3) (v := .ref l1) (C := RWI) (T := TWI) (N := 4) hx hb hz in_WI hown hK hP 0 rfl rfl 1 (by decide) (hz _ wd_123) (fun _ h9 => h9) rfl dWI_chooseByMeasures_86 ?_
      refine zw_callTv (wr := [zob wd 3 [.ref l0, .ref l1, .ref l2, .ref l3], zob l0 4 [.ref p0], zob l3 4 [.ref p3], zar p0 kp0 12 g0, zar p3 kp3 12 g3]) hK hP hD hS hA [3, 7, 2, 6] [0, 1, 4, 5, 8] rfl rfl (by decide) (by decide) (va_runV (As := [.ref l1]) (rest := []) ⟨hx, hb, hml, hown, hz⟩ ((f_LI_copyOf l dC dI T l2 p2 kp2 g2 l1 p1 kp1 g1 ) s.heap.size) (cwV 1 hz (z_gV wd_513 wd_514 wd_515 wd_35 wd_516) rfl rfl rfl (by decide +kernel) ⟨Nat.le_of_ble_eq_true rfl, Nat.le_of_ble_eq_true rfl⟩) (zw_preVT hK hP hD (va_recv (q0 := 3) hK hP (q := (RLI, TLI, 1)) rfl rfl) [3, 7, 2, 6] (by decide) rfl [2, 1] rfl z_true (fun _ _ _ => trivial)) rfl rfl hl.1 rfl (lv_room (Nat.le_of_ble_eq_true rfl)) dWI_chooseByMeasures_89 ⟨Nat.le_of_ble_eq_true rfl, Nat.le_of_ble_eq_true rfl⟩) (fun u H locs h_r6 hP hD hK hS => ?_)
      obtain ⟨f_5, rfl⟩ : ∃ z, z = u := ⟨_, rfl⟩
      have hP : va_P (dC, dI) vwCl ([zob wd 3 [.ref l0, .ref l1, .ref l2, .ref l3], zob l0 4 [.ref p0], zob l1 4 [.ref p1], zob l2 4 [.ref p2], zob l3 4 [.ref p3], zar p0 kp0 12 g0, zar p1 kp1 12 g1, zar p2 kp2 12 f_5, zar p3 kp3 12 g3] ++ T) H := zt_sub hP [0, 1, 7, 5, 2, 3, 8, 6, 4] rfl
      have hD : va_D A ([zob wd 3 [.ref l0, .ref l1, .ref l2, .ref l3], zob l0 4 [.ref p0], zob l1 4 [.ref p1], zob l2 4 [.ref p2], zob l3 4 [.ref p3], zar p0 kp0 12 g0, zar p1 kp1 12 g1, zar p2 kp2 12 f_5, zar p3 kp3 12 g3] ++ T) := zt_subD hD [0, 1, 7, 5, 2, 3, 8, 6, 4] (by decide) rfl
      have hK : va_K (dC, dI) vwCl [(kp0, .int), (kp1, .int), (kp2, .int), (kp3, .int)] s := hK
      refine lv_aload_n hx hb dWI_chooseByMeasures_92 rfl (lv_at hl 2 rfl) ?_
      refine va_get (D := (dC, dI)) (ci := 3) (v := .ref l2) (C := RWI) (T := TWI) (N := 4) hx hb hz in_WI hown hK hP 0 rfl rfl 2 (by decide) (hz _ wd_125) (fun _ h9 => h9) rfl dWI_chooseByMeasures_93 ?_
      refine lv_iload_n hx hb dWI_chooseByMeasures_96 rfl (lv_at hl 4 rfl) ?_
      refine lv_iload hx hb dWI_chooseByMeasures_97 (lv_at hl 0 rfl) ?_
      refine lv_isub hx hb dWI_chooseByMeasures_99 ?_
      refine lv_topi (fun y7 _ => ?_)
      refine lv_aload_n hx hb dWI_chooseByMeasures_100 rfl (lv_at hl 2 rfl) ?_
      refine va_get (D := (dC, dI)) (ci := 3) (v := .ref l1) (C := RWI) (T := TWI) (N := 4) hx hb hz in_WI hown hK hP 0 rfl rfl 1 (by decide) (hz _ wd_123) (fun _ h9 => h9) rfl dWI_chooseByMeasures_101 ?_
      refine lv_iconst (v := nI 0) hx hb dWI_chooseByMeasures_104 (by decide) ?_
      refine lv_iload_n hx hb dWI_chooseByMeasures_105 rfl (lv_at hl 3 rfl) ?_
      refine zw_callTv (wr := [zob wd 3 [.ref l0, .ref l1, .ref l2, .ref l3], zob l0 4 [.ref p0], zob l3 4 [.ref p3], zar p0 kp0 12 g0, zar p3 kp3 12 g3]) hK hP hD hS hA [3, 7, 2, 6] [0, 1, 4, 5, 8] rfl rfl (by decide) (by decide) (va_runV (As := [.int y7, .ref l1, .int (nI 0), .int (nI cs)]) (rest := []) ⟨hx, hb, hml, hown, hz⟩ ((f_LI_shareOut l dC dI T l2 p2 kp2 f_5 l1 p1 kp1 g1 y7 0 cs (by omega) (by omega)) H.size) (cwV 4 hz (z_gV wd_506 wd_484 wd_485 wd_35 wd_486) rfl rfl rfl (by decide +kernel) ⟨Nat.le_of_ble_eq_true rfl, Nat.le_of_ble_eq_true rfl⟩) (zw_preVT hK hP hD (va_recv (q0 := 3) hK hP (q := (RLI, TLI, 1)) rfl rfl) [3, 7, 2, 6] (by decide) rfl [2, 1] rfl z_true (fun _ _ _ => trivial)) rfl rfl hl.1 rfl (lv_room (Nat.le_of_ble_eq_true rfl)) dWI_chooseByMeasures_106 ⟨Nat.le_of_ble_eq_true rfl, Nat.le_of_ble_eq_true rfl⟩) (fun u H locs h_r9 hP hD hK hS => ?_)
      obtain ⟨f_8, rfl⟩ : ∃ z, z = u := ⟨_, rfl⟩
      have hP : va_P (dC, dI) vwCl ([zob wd 3 [.ref l0, .ref l1, .ref l2, .ref l3], zob l0 4 [.ref p0], zob l1 4 [.ref p1], zob l2 4 [.ref p2], zob l3 4 [.ref p3], zar p0 kp0 12 g0, zar p1 kp1 12 g1, zar p2 kp2 12 f_8, zar p3 kp3 12 g3] ++ T) H := zt_sub hP [0, 1, 7, 5, 2, 3, 8, 6, 4] rfl
      have hD : va_D A ([zob wd 3 [.ref l0, .ref l1, .ref l2, .ref l3], zob l0 4 [.ref p0], zob l1 4 [.ref p1], zob l2 4 [.ref p2], zob l3 4 [.ref p3], zar p0 kp0 12 g0, zar p1 kp1 12 g1, zar p2 kp2 12 f_8, zar p3 kp3 12 g3] ++ T) := zt_subD hD [0, 1, 7, 5, 2, 3, 8, 6, 4] (by decide) rfl
      have hK : va_K (dC, dI) vwCl [(kp0, .int), (kp1, .int), (kp2, .int), (kp3, .int)] s := hK
      subst hQ
      exact zw_vret (D := (dC, dI)) (cl := vwCl) (A := A) (g0, g1, f_8, g3) hx hb hr hlocks (trivial) (zt_sub hP [0, 1, 2, 3, 4, 5, 6, 7, 8] rfl) (hK.sub [] rfl) (zt_subD hD [0, 1, 2, 3, 4, 5, 6, 7, 8] (by decide) rfl) hS dWI_chooseByMeasures_109
    · refine lv_aload_n hx hb dWI_chooseByMeasures_46 rfl (lv_at hl 2 rfl) ?_
      refine lv_iload_n hx hb dWI_chooseByMeasures_47 rfl (lv_at hl 3 rfl) ?_
      refine zw_callTv (wr := []) hK hP hD hS hA [0, 1, 2, 3, 4, 5, 6, 7, 8] [] rfl rfl (by decide) (by decide) (va_runV (As := [.int (nI cs)]) (rest := []) ⟨hx, hb, hml, hown, hz⟩ ((f_WI_weighByScope l dC dI T wd l0 l1 l2 l3 p0 p1 p2 p3 kp0 kp1 kp2 kp3 g0 g1 g2 g3 cs (by omega)) s.heap.size) (cwV 1 hz (z_gV wd_518 wd_520 wd_11 wd_34 wd_521) rfl rfl rfl (by decide +kernel) ⟨Nat.le_of_ble_eq_true rfl, Nat.le_of_ble_eq_true rfl⟩) (zw_preVT hK hP hD (va_recv (q0 := 0) hK hP (q := (RWI, TWI, 4)) rfl rfl) [0, 1, 2, 3, 4, 5, 6, 7, 8] (by decide) rfl [0, 1, 2, 3] rfl z_true (fun _ _ _ => trivial)) rfl rfl hl.1 rfl (lv_room (Nat.le_of_ble_eq_true rfl)) dWI_chooseByMeasures_48 ⟨Nat.le_of_ble_eq_true rfl, Nat.le_of_ble_eq_true rfl⟩) (fun u H locs h_r14 hP hD hK hS => ?_)
      obtain ⟨u_10, u_11, u_12, u_13⟩ := u
      have hP : va_P (dC, dI) vwCl ([zob wd 3 [.ref l0, .ref l1, .ref l2, .ref l3], zob l0 4 [.ref p0], zob l1 4 [.ref p1], zob l2 4 [.ref p2], zob l3 4 [.ref p3], zar p0 kp0 12 u_10, zar p1 kp1 12 u_11, zar p2 kp2 12 u_12, zar p3 kp3 12 u_13] ++ T) H := zt_sub hP [0, 1, 2, 3, 4, 5, 6, 7, 8] rfl
      have hD : va_D A ([zob wd 3 [.ref l0, .ref l1, .ref l2, .ref l3], zob l0 4 [.ref p0], zob l1 4 [.ref p1], zob l2 4 [.ref p2], zob l3 4 [.ref p3], zar p0 kp0 12 u_10, zar p1 kp1 12 u_11, zar p2 kp2 12 u_12, zar p3 kp3 12 u_13] ++ T) := zt_subD hD [0, 1, 2, 3, 4, 5, 6, 7, 8] (by decide) rfl
      have hK : va_K (dC, dI) vwCl [(kp0, .int), (kp1, .int), (kp2, .int), (kp3, .int)] s := hK
      refine lv_aload_n hx hb dWI_chooseByMeasures_51 rfl (lv_at hl 2 rfl) ?_
      refine va_get (D := (dC, dI)) (ci := 3) (v := .ref l2) (C := RWI) (T := TWI) (N := 4) hx hb hz in_WI hown hK hP 0 rfl rfl 2 (by decide) (hz _ wd_125) (fun _ h9 => h9) rfl dWI_chooseByMeasures_52 ?_
      refine lv_aload_n hx hb dWI_chooseByMeasures_55 rfl (lv_at hl 2 rfl) ?_
      refine va_get (D := (dC, dI)) (ci := 3) (v := .ref l0) (C := RWI) (T := TWI) (N := 4) hx hb hz in_WI hown hK hP 0 rfl rfl 0 (by decide) (hz _ wd_121) (fun _ h9 => h9) rfl dWI_chooseByMeasures_56 ?_
      refine zw_callTv (wr := [zob wd 3 [.ref l0, .ref l1, .ref l2, .ref l3], zob l1 4 [.ref p1], zob l3 4 [.ref p3], zar p1 kp1 12 u_11, zar p3 kp3 12 u_13]) hK hP hD hS hA [3, 7, 1, 5] [0, 2, 4, 6, 8] rfl rfl (by decide) (by decide) (va_runV (As := [.ref l0]) (rest := []) ⟨hx, hb, hml, hown, hz⟩ ((f_LI_copyOf l dC dI T l2 p2 kp2 u_12 l0 p0 kp0 u_10 ) H.size) (cwV 1 hz (z_gV wd_513 wd_514 wd_515 wd_35 wd_516) rfl rfl rfl (by decide +kernel) ⟨Nat.le_of_ble_eq_true rfl, Nat.le_of_ble_eq_true rfl⟩) (zw_preVT hK hP hD (va_recv (q0 := 3) hK hP (q := (RLI, TLI, 1)) rfl rfl) [3, 7, 1, 5] (by decide) rfl [2, 0] rfl z_true (fun _ _ _ => trivial)) rfl rfl hl.1 rfl (lv_room (Nat.le_of_ble_eq_true rfl)) dWI_chooseByMeasures_59 ⟨Nat.le_of_ble_eq_true rfl, Nat.le_of_ble_eq_true rfl⟩) (fun u H locs h_r16 hP hD hK hS => ?_)
      obtain ⟨f_15, rfl⟩ : ∃ z, z = u := ⟨_, rfl⟩
      have hP : va_P (dC, dI) vwCl ([zob wd 3 [.ref l0, .ref l1, .ref l2, .ref l3], zob l0 4 [.ref p0], zob l1 4 [.ref p1], zob l2 4 [.ref p2], zob l3 4 [.ref p3], zar p0 kp0 12 u_10, zar p1 kp1 12 u_11, zar p2 kp2 12 f_15, zar p3 kp3 12 u_13] ++ T) H := zt_sub hP [0, 7, 1, 5, 2, 8, 3, 6, 4] rfl
      have hD : va_D A ([zob wd 3 [.ref l0, .ref l1, .ref l2, .ref l3], zob l0 4 [.ref p0], zob l1 4 [.ref p1], zob l2 4 [.ref p2], zob l3 4 [.ref p3], zar p0 kp0 12 u_10, zar p1 kp1 12 u_11, zar p2 kp2 12 f_15, zar p3 kp3 12 u_13] ++ T) := zt_subD hD [0, 7, 1, 5, 2, 8, 3, 6, 4] (by decide) rfl
      have hK : va_K (dC, dI) vwCl [(kp0, .int), (kp1, .int), (kp2, .int), (kp3, .int)] s := hK
      refine lv_aload_n hx hb dWI_chooseByMeasures_62 rfl (lv_at hl 2 rfl) ?_
      refine va_get (D := (dC, dI)) (ci := 3) (v := .ref l2) (C := RWI) (T := TWI) (N := 4) hx hb hz in_WI hown hK hP 0 rfl rfl 2 (by decide) (hz _ wd_125) (fun _ h9 => h9) rfl dWI_chooseByMeasures_63 ?_
      refine lv_iload_n hx hb dWI_chooseByMeasures_66 rfl (lv_at hl 4 rfl) ?_
      refine lv_iload_n hx hb dWI_chooseByMeasures_67 rfl (lv_at hl 1 rfl) ?_
      refine lv_isub hx hb dWI_chooseByMeasures_68 ?_
      refine lv_topi (fun y17 _ => ?_)
      refine lv_aload_n hx hb dWI_chooseByMeasures_69 rfl (lv_at hl 2 rfl) ?_
      refine va_get (D := (dC, dI)) (ci := 3) (v := .ref l3) (C := RWI) (T := TWI) (N := 4) hx hb hz in_WI hown hK hP 0 rfl rfl 3 (by decide) (hz _ wd_127) (fun _ h9 => h9) rfl dWI_chooseByMeasures_70 ?_
      refine lv_iconst (v := nI 0) hx hb dWI_chooseByMeasures_73 (by decide) ?_
      refine lv_iload_n hx hb dWI_chooseByMeasures_74 rfl (lv_at hl 3 rfl) ?_
      refine zw_callTv (wr := [zob wd 3 [.ref l0, .ref l1, .ref l2, .ref l3], zob l0 4 [.ref p0], zob l1 4 [.ref p1], zar p0 kp0 12 u_10, zar p1 kp1 12 u_11]) hK hP hD hS hA [3, 7, 4, 8] [0, 1, 2, 5, 6] rfl rfl (by decide) (by decide) (va_runV (As := [.int y17, .ref l3, .int (nI 0), .int (nI cs)]) (rest := []) ⟨hx, hb, hml, hown, hz⟩ ((f_LI_shareOut l dC dI T l2 p2 kp2 f_15 l3 p3 kp3 u_13 y17 0 cs (by omega) (by omega)) H.size) (cwV 4 hz (z_gV wd_506 wd_484 wd_485 wd_35 wd_486) rfl rfl rfl (by decide +kernel) ⟨Nat.le_of_ble_eq_true rfl, Nat.le_of_ble_eq_true rfl⟩) (zw_preVT hK hP hD (va_recv (q0 := 3) hK hP (q := (RLI, TLI, 1)) rfl rfl) [3, 7, 4, 8] (by decide) rfl [2, 3] rfl z_true (fun _ _ _ => trivial)) rfl rfl hl.1 rfl (lv_room (Nat.le_of_ble_eq_true rfl)) dWI_chooseByMeasures_75 ⟨Nat.le_of_ble_eq_true rfl, Nat.le_of_ble_eq_true rfl⟩) (fun u H locs h_r19 hP hD hK hS => ?_)
      obtain ⟨f_18, rfl⟩ : ∃ z, z = u := ⟨_, rfl⟩
      have hP : va_P (dC, dI) vwCl ([zob wd 3 [.ref l0, .ref l1, .ref l2, .ref l3], zob l0 4 [.ref p0], zob l1 4 [.ref p1], zob l2 4 [.ref p2], zob l3 4 [.ref p3], zar p0 kp0 12 u_10, zar p1 kp1 12 u_11, zar p2 kp2 12 f_18, zar p3 kp3 12 u_13] ++ T) H := zt_sub hP [0, 1, 2, 5, 7, 3, 4, 6, 8] rfl
      have hD : va_D A ([zob wd 3 [.ref l0, .ref l1, .ref l2, .ref l3], zob l0 4 [.ref p0], zob l1 4 [.ref p1], zob l2 4 [.ref p2], zob l3 4 [.ref p3], zar p0 kp0 12 u_10, zar p1 kp1 12 u_11, zar p2 kp2 12 f_18, zar p3 kp3 12 u_13] ++ T) := zt_subD hD [0, 1, 2, 5, 7, 3, 4, 6, 8] (by decide) rfl
      have hK : va_K (dC, dI) vwCl [(kp0, .int), (kp1, .int), (kp2, .int), (kp3, .int)] s := hK
      refine lv_goto (tgt := 109) hx hb dWI_chooseByMeasures_78 rfl ?_
      subst hQ
      exact zw_vret (D := (dC, dI)) (cl := vwCl) (A := A) (u_10, u_11, f_18, u_13) hx hb hr hlocks (trivial) (zt_sub hP [0, 1, 2, 3, 4, 5, 6, 7, 8] rfl) (hK.sub [] rfl) (zt_subD hD [0, 1, 2, 3, 4, 5, 6, 7, 8] (by decide) rfl) hS dWI_chooseByMeasures_109
  · refine lv_aload_n hx hb dWI_chooseByMeasures_26 rfl (lv_at hl 2 rfl) ?_
    refine va_get (D := (dC, dI)) (ci := 3) (v := .ref l2) (C := RWI) (T := TWI) (N := 4) hx hb hz in_WI hown hK hP 0 rfl rfl 2 (by decide) (hz _ wd_125) (fun _ h9 => h9) rfl dWI_chooseByMeasures_27 ?_
    refine lv_aload_n hx hb dWI_chooseByMeasures_30 rfl (lv_at hl 2 rfl) ?_
    refine va_get (D := (dC, dI)) (ci := 3) (v := .ref l0) (C := RWI) (T := TWI) (N := 4) hx hb hz in_WI hown hK hP 0 rfl rfl 0 (by decide) (hz _ wd_121) (fun _ h9 => h9) rfl dWI_chooseByMeasures_31 ?_
    refine zw_callTv (wr := [zob wd 3 [.ref l0, .ref l1, .ref l2, .ref l3], zob l1 4 [.ref p1], zob l3 4 [.ref p3], zar p1 kp1 12 g1, zar p3 kp3 12 g3]) hK hP hD hS hA [3, 7, 1, 5] [0, 2, 4, 6, 8] rfl rfl (by decide) (by decide) (va_runV (As := [.ref l0]) (rest := []) ⟨hx, hb, hml, hown, hz⟩ ((f_LI_copyOf l dC dI T l2 p2 kp2 g2 l0 p0 kp0 g0 ) s.heap.size) (cwV 1 hz (z_gV wd_513 wd_514 wd_515 wd_35 wd_516) rfl rfl rfl (by decide +kernel) ⟨Nat.le_of_ble_eq_true rfl, Nat.le_of_ble_eq_true rfl⟩) (zw_preVT hK hP hD (va_recv (q0 := 3) hK hP (q := (RLI, TLI, 1)) rfl rfl) [3, 7, 1, 5] (by decide) rfl [2, 0] rfl z_true (fun _ _ _ => trivial)) rfl rfl hl.1 rfl (lv_room (Nat.le_of_ble_eq_true rfl)) dWI_chooseByMeasures_34 ⟨Nat.le_of_ble_eq_true rfl, Nat.le_of_ble_eq_true rfl⟩) (fun u H locs h_r21 hP hD hK hS => ?_)
    obtain ⟨f_20, rfl⟩ : ∃ z, z = u := ⟨_, rfl⟩
    have hP : va_P (dC, dI) vwCl ([zob wd 3 [.ref l0, .ref l1, .ref l2, .ref l3], zob l0 4 [.ref p0], zob l1 4 [.ref p1], zob l2 4 [.ref p2], zob l3 4 [.ref p3], zar p0 kp0 12 g0, zar p1 kp1 12 g1, zar p2 kp2 12 f_20, zar p3 kp3 12 g3] ++ T) H := zt_sub hP [0, 7, 1, 5, 2, 8, 3, 6, 4] rfl
    have hD : va_D A ([zob wd 3 [.ref l0, .ref l1, .ref l2, .ref l3], zob l0 4 [.ref p0], zob l1 4 [.ref p1], zob l2 4 [.ref p2], zob l3 4 [.ref p3], zar p0 kp0 12 g0, zar p1 kp1 12 g1, zar p2 kp2 12 f_20, zar p3 kp3 12 g3] ++ T) := zt_subD hD [0, 7, 1, 5, 2, 8, 3, 6, 4] (by decide) rfl
    have hK : va_K (dC, dI) vwCl [(kp0, .int), (kp1, .int), (kp2, .int), (kp3, .int)] s := hK
    refine lv_goto (tgt := 109) hx hb dWI_chooseByMeasures_37 rfl ?_
    subst hQ
    exact zw_vret (D := (dC, dI)) (cl := vwCl) (A := A) (g0, g1, f_20, g3) hx hb hr hlocks (trivial) (zt_sub hP [0, 1, 2, 3, 4, 5, 6, 7, 8] rfl) (hK.sub [] rfl) (zt_subD hD [0, 1, 2, 3, 4, 5, 6, 7, 8] (by decide) rfl) hS dWI_chooseByMeasures_109

set_option maxHeartbeats 4000000 in
set_option maxRecDepth 100000 in
theorem f_WI_fit (l : Launch) (dC : Nat → ClassId) (dI : Nat → Nat → Nat) (wd : Nat) (l0 : Nat) (l1 : Nat) (l2 : Nat) (l3 : Nat) (p0 : Nat) (p1 : Nat) (p2 : Nat) (p3 : Nat) (kp0 : ClassId) (kp1 : ClassId) (kp2 : ClassId) (kp3 : ClassId) (g0 : Nat → Int32) (g1 : Nat → Int32) (g2 : Nat → Int32) (g3 : Nat → Int32) (n : Nat) (ad : Nat → Nat) (d : Nat → Nat → Nat) (k : Nat) (gp : Nat) (hk : k < n) (hd : ∀ j k, k < n → d j k ≤ 1000) (hL : ∀ k, k < n → d 0 k + d 2 k ≤ 12) : zw_Mv (S := (Nat → Int32) × (Nat → Int32) × (Nat → Int32) × (Nat → Int32)) l yWI_fit wWI_fit ({ frames := 3, cells := 0, slots := 0, locals := 81 }) [.ref wd, .ref (ad k), .int (nI gp)] (dC, dI) vwCl ([zob wd 3 [.ref l0, .ref l1, .ref l2, .ref l3], zob l0 4 [.ref p0], zob l1 4 [.ref p1], zob l2 4 [.ref p2], zob l3 4 [.ref p3], zar p0 kp0 12 g0, zar p1 kp1 12 g1, zar p2 kp2 12 g2, zar p3 kp3 12 g3] ++ zcs n ad (zcf d)) [(kp0, .int), (kp1, .int), (kp2, .int), (kp3, .int)] (fun _ _ => True) (fun u => match u with | (u0, u1, u2, u3) => True) (fun u => match u with | (u0, u1, u2, u3) => ([zob wd 3 [.ref l0, .ref l1, .ref l2, .ref l3], zob l0 4 [.ref p0], zob l1 4 [.ref p1], zob l2 4 [.ref p2], zob l3 4 [.ref p3], zar p0 kp0 12 u0, zar p1 kp1 12 u1, zar p2 kp2 12 u2, zar p3 kp3 12 u3] ++ zcs n ad (zcf d))) (fun u => match u with | (u0, u1, u2, u3) => []) 0 0 := by
  refine zw_headv (cc := cWI_fit) (maxL := 3) (ret := none) (by decide +kernel) rfl (Nat.le_of_ble_eq_true rfl) ?_
  intro p e s m below meth c ls A F hnm hA hP hK hD hS hX hl
  obtain ⟨hx, hb, hml, hr, hlocks, hown, hts⟩ := F
  have hown : s.vm.findClass "SpannedCells$Widths" = some m.cls := hown
  have hz : ∀ w9 ∈ zT, w9.before [.ref wd, .ref (ad k), .int (nI gp)].toArray s = true := fun w9 h => hts w9 (List.mem_cons_of_mem _ h)
  have hl : lv_has ls 3 [(0, .ref wd), (1, .ref (ad k)), (2, .int (nI gp))] := hl
  refine z_q (fun Q hQ => ?_)
  have hLk := hL k hk
  refine lv_aload_n hx hb dWI_fit_0 rfl (lv_at hl 0 rfl) ?_
  refine va_get (D := (dC, dI)) (ci := 3) (v := .ref l0) (C := RWI) (T := TWI) (N := 4) hx hb hz in_WI hown hK hP 0 rfl rfl 0 (by decide) (hz _ wd_121) (fun _ h9 => h9) rfl dWI_fit_1 ?_
  refine lv_aload_n hx hb dWI_fit_4 rfl (lv_at hl 1 rfl) ?_
  refine va_get (D := (dC, dI)) (ci := 7) (v := .int (nI (d 3 k))) (C := RCE) (T := TCE) (N := 10) hx hb hz in_CE hown hK hP (9 + k) (zcs_get rfl (by omega)) rfl 3 (by decide) (hz _ wd_265) (fun _ h9 => h9) rfl dWI_fit_5 ?_
  refine lv_iload_n hx hb dWI_fit_8 rfl (lv_at hl 2 rfl) ?_
  refine lv_aload_n hx hb dWI_fit_9 rfl (lv_at hl 0 rfl) ?_
  refine va_get (D := (dC, dI)) (ci := 3) (v := .ref l1) (C := RWI) (T := TWI) (N := 4) hx hb hz in_WI hown hK hP 0 rfl rfl 1 (by decide) (hz _ wd_123) (fun _ h9 => h9) rfl dWI_fit_10 ?_
  refine lv_aload_n hx hb dWI_fit_13 rfl (lv_at hl 1 rfl) ?_
  refine va_get (D := (dC, dI)) (ci := 7) (v := .int (nI (d 0 k))) (C := RCE) (T := TCE) (N := 10) hx hb hz in_CE hown hK hP (9 + k) (zcs_get rfl (by omega)) rfl 0 (by decide) (hz _ wd_252) (fun _ h9 => h9) rfl dWI_fit_14 ?_
  refine lv_aload_n hx hb dWI_fit_17 rfl (lv_at hl 1 rfl) ?_
  refine vp_callSi (W.runV (As := []) (rest := [.int (nI (d 0 k)), .ref l1, .int (nI gp), .int (nI (d 3 k)), .ref l0]) ⟨hx, hb, hml, hown, hz⟩ (f_CE_right l dC dI (ad k) (d 0 k) (d 1 k) (d 2 k) (d 3 k) (d 4 k) (d 5 k) (d 6 k) (d 7 k) (d 8 k) (d 9 k) ) (cwV 0 hz (z_gV wd_470 wd_239 wd_240 wd_41 wd_241) rfl rfl rfl (by decide +kernel) ⟨Nat.le_of_ble_eq_true rfl, Nat.le_of_ble_eq_true rfl⟩) (zr_preV hK (zt_one hP (zcs_get rfl (by omega))) (va_recv hK hP (q := (RCE, TCE, 10)) rfl (zcs_get rfl (by omega))) [] rfl z_true (fun _ _ _ => trivial)) rfl rfl hl.1 rfl (lv_room (Nat.le_of_ble_eq_true rfl)) dWI_fit_18 ⟨Nat.le_of_ble_eq_true rfl, Nat.le_of_ble_eq_true rfl⟩) (fun r1 h_r1 => ?_)
  have h_r1 : r1 = nI ((d 0 k) + (d 2 k)) := h_r1
  subst h_r1
  refine zw_callTv (wr := [zob wd 3 [.ref l0, .ref l1, .ref l2, .ref l3], zob l2 4 [.ref p2], zob l3 4 [.ref p3], zar p2 kp2 12 g2, zar p3 kp3 12 g3]) hK hP hD hS hA [1, 5, 2, 6] [0, 3, 4, 7, 8] rfl rfl (by decide) (by decide) (va_runV (As := [.int (nI (d 3 k)), .int (nI gp), .ref l1, .int (nI (d 0 k)), .int (nI ((d 0 k) + (d 2 k)))]) (rest := []) ⟨hx, hb, hml, hown, hz⟩ ((f_LI_stretch l dC dI (zcs n ad (zcf d)) l0 p0 kp0 g0 l1 p1 kp1 g1 (nI (d 3 k)) gp (d 0 k) ((d 0 k) + (d 2 k)) (by omega) (by omega)) s.heap.size) (cwV 5 hz (z_gV wd_471 wd_472 wd_473 wd_35 wd_474) rfl rfl rfl (by decide +kernel) ⟨Nat.le_of_ble_eq_true rfl, Nat.le_of_ble_eq_true rfl⟩) (zw_preVT hK hP hD (va_recv (q0 := 1) hK hP (q := (RLI, TLI, 1)) rfl rfl) [1, 5, 2, 6] (by decide) rfl [0, 1] rfl z_true (fun _ _ _ => trivial)) rfl rfl hl.1 rfl (lv_room (Nat.le_of_ble_eq_true rfl)) dWI_fit_21 ⟨Nat.le_of_ble_eq_true rfl, Nat.le_of_ble_eq_true rfl⟩) (fun u H locs h_r3 hP hD hK hS => ?_)
  obtain ⟨f_2, rfl⟩ : ∃ z, z = u := ⟨_, rfl⟩
  have hP : va_P (dC, dI) vwCl ([zob wd 3 [.ref l0, .ref l1, .ref l2, .ref l3], zob l0 4 [.ref p0], zob l1 4 [.ref p1], zob l2 4 [.ref p2], zob l3 4 [.ref p3], zar p0 kp0 12 f_2, zar p1 kp1 12 g1, zar p2 kp2 12 g2, zar p3 kp3 12 g3] ++ zcs n ad (zcf d)) H := zt_sub hP [0, 5, 7, 1, 2, 6, 8, 3, 4] rfl
  have hD : va_D A ([zob wd 3 [.ref l0, .ref l1, .ref l2, .ref l3], zob l0 4 [.ref p0], zob l1 4 [.ref p1], zob l2 4 [.ref p2], zob l3 4 [.ref p3], zar p0 kp0 12 f_2, zar p1 kp1 12 g1, zar p2 kp2 12 g2, zar p3 kp3 12 g3] ++ zcs n ad (zcf d)) := zt_subD hD [0, 5, 7, 1, 2, 6, 8, 3, 4] (by decide) rfl
  have hK : va_K (dC, dI) vwCl [(kp0, .int), (kp1, .int), (kp2, .int), (kp3, .int)] s := hK
  refine lv_aload_n hx hb dWI_fit_24 rfl (lv_at hl 0 rfl) ?_
  refine va_get (D := (dC, dI)) (ci := 3) (v := .ref l1) (C := RWI) (T := TWI) (N := 4) hx hb hz in_WI hown hK hP 0 rfl rfl 1 (by decide) (hz _ wd_123) (fun _ h9 => h9) rfl dWI_fit_25 ?_
  refine lv_aload_n hx hb dWI_fit_28 rfl (lv_at hl 1 rfl) ?_
  refine va_get (D := (dC, dI)) (ci := 7) (v := .int (nI (d 4 k))) (C := RCE) (T := TCE) (N := 10) hx hb hz in_CE hown hK hP (9 + k) (zcs_get rfl (by omega)) rfl 4 (by decide) (hz _ wd_267) (fun _ h9 => h9) rfl dWI_fit_29 ?_
  refine lv_iload_n hx hb dWI_fit_32 rfl (lv_at hl 2 rfl) ?_
  refine lv_aload_n hx hb dWI_fit_33 rfl (lv_at hl 0 rfl) ?_
  refine va_get (D := (dC, dI)) (ci := 3) (v := .ref l1) (C := RWI) (T := TWI) (N := 4) hx hb hz in_WI hown hK hP 0 rfl rfl 1 (by decide) (hz _ wd_123) (fun _ h9 => h9) rfl dWI_fit_34 ?_
  refine lv_aload_n hx hb dWI_fit_37 rfl (lv_at hl 1 rfl) ?_
  refine va_get (D := (dC, dI)) (ci := 7) (v := .int (nI (d 0 k))) (C := RCE) (T := TCE) (N := 10) hx hb hz in_CE hown hK hP (9 + k) (zcs_get rfl (by omega)) rfl 0 (by decide) (hz _ wd_252) (fun _ h9 => h9) rfl dWI_fit_38 ?_
  refine lv_aload_n hx hb dWI_fit_41 rfl (lv_at hl 1 rfl) ?_
  refine vp_callSi (W.runV (As := []) (rest := [.int (nI (d 0 k)), .ref l1, .int (nI gp), .int (nI (d 4 k)), .ref l1]) ⟨hx, hb, hml, hown, hz⟩ (f_CE_right l dC dI (ad k) (d 0 k) (d 1 k) (d 2 k) (d 3 k) (d 4 k) (d 5 k) (d 6 k) (d 7 k) (d 8 k) (d 9 k) ) (cwV 0 hz (z_gV wd_470 wd_239 wd_240 wd_41 wd_241) rfl rfl rfl (by decide +kernel) ⟨Nat.le_of_ble_eq_true rfl, Nat.le_of_ble_eq_true rfl⟩) (zr_preV hK (zt_one hP (zcs_get rfl (by omega))) (va_recv hK hP (q := (RCE, TCE, 10)) rfl (zcs_get rfl (by omega))) [] rfl z_true (fun _ _ _ => trivial)) rfl rfl hl.1 rfl (lv_room (Nat.le_of_ble_eq_true rfl)) dWI_fit_42 ⟨Nat.le_of_ble_eq_true rfl, Nat.le_of_ble_eq_true rfl⟩) (fun r4 h_r4 => ?_)
  have h_r4 : r4 = nI ((d 0 k) + (d 2 k)) := h_r4
  subst h_r4
  refine zw_callTv (wr := [zob wd 3 [.ref l0, .ref l1, .ref l2, .ref l3], zob l0 4 [.ref p0], zob l2 4 [.ref p2], zob l3 4 [.ref p3], zar p0 kp0 12 f_2, zar p2 kp2 12 g2, zar p3 kp3 12 g3]) hK hP hD hS hA [2, 6] [0, 1, 3, 4, 5, 7, 8] rfl rfl (by decide) (by decide) (va_runV (As := [.int (nI (d 4 k)), .int (nI gp), .ref l1, .int (nI (d 0 k)), .int (nI ((d 0 k) + (d 2 k)))]) (rest := []) ⟨hx, hb, hml, hown, hz⟩ ((f_LI_stretchA l dC dI (zcs n ad (zcf d)) l1 p1 kp1 g1 (nI (d 4 k)) gp (d 0 k) ((d 0 k) + (d 2 k)) (by omega) (by omega)) H.size) (cwV 5 hz (z_gV wd_471 wd_472 wd_473 wd_35 wd_474) rfl rfl rfl (by decide +kernel) ⟨Nat.le_of_ble_eq_true rfl, Nat.le_of_ble_eq_true rfl⟩) (zw_preVT hK hP hD (va_recv (q0 := 2) hK hP (q := (RLI, TLI, 1)) rfl rfl) [2, 6] (by decide) rfl [1] rfl z_true (fun _ _ _ => trivial)) rfl rfl hl.1 rfl (lv_room (Nat.le_of_ble_eq_true rfl)) dWI_fit_45 ⟨Nat.le_of_ble_eq_true rfl, Nat.le_of_ble_eq_true rfl⟩) (fun u H locs h_r6 hP hD hK hS => ?_)
  obtain ⟨f_5, rfl⟩ : ∃ z, z = u := ⟨_, rfl⟩
  have hP : va_P (dC, dI) vwCl ([zob wd 3 [.ref l0, .ref l1, .ref l2, .ref l3], zob l0 4 [.ref p0], zob l1 4 [.ref p1], zob l2 4 [.ref p2], zob l3 4 [.ref p3], zar p0 kp0 12 f_2, zar p1 kp1 12 f_5, zar p2 kp2 12 g2, zar p3 kp3 12 g3] ++ zcs n ad (zcf d)) H := zt_sub hP [0, 1, 7, 2, 3, 4, 8, 5, 6] rfl
  have hD : va_D A ([zob wd 3 [.ref l0, .ref l1, .ref l2, .ref l3], zob l0 4 [.ref p0], zob l1 4 [.ref p1], zob l2 4 [.ref p2], zob l3 4 [.ref p3], zar p0 kp0 12 f_2, zar p1 kp1 12 f_5, zar p2 kp2 12 g2, zar p3 kp3 12 g3] ++ zcs n ad (zcf d)) := zt_subD hD [0, 1, 7, 2, 3, 4, 8, 5, 6] (by decide) rfl
  have hK : va_K (dC, dI) vwCl [(kp0, .int), (kp1, .int), (kp2, .int), (kp3, .int)] s := hK
  refine lv_aload_n hx hb dWI_fit_48 rfl (lv_at hl 0 rfl) ?_
  refine va_get (D := (dC, dI)) (ci := 3) (v := .ref l1) (C := RWI) (T := TWI) (N := 4) hx hb hz in_WI hown hK hP 0 rfl rfl 1 (by decide) (hz _ wd_123) (fun _ h9 => h9) rfl dWI_fit_49 ?_
  refine lv_aload_n hx hb dWI_fit_52 rfl (lv_at hl 0 rfl) ?_
  refine va_get (D := (dC, dI)) (ci := 3) (v := .ref l0) (C := RWI) (T := TWI) (N := 4) hx hb hz in_WI hown hK hP 0 rfl rfl 0 (by decide) (hz _ wd_121) (fun _ h9 => h9) rfl dWI_fit_53 ?_
  refine lv_aload_n hx hb dWI_fit_56 rfl (lv_at hl 1 rfl) ?_
  refine va_get (D := (dC, dI)) (ci := 7) (v := .int (nI (d 0 k))) (C := RCE) (T := TCE) (N := 10) hx hb hz in_CE hown hK hP (9 + k) (zcs_get rfl (by omega)) rfl 0 (by decide) (hz _ wd_252) (fun _ h9 => h9) rfl dWI_fit_57 ?_
  refine lv_aload_n hx hb dWI_fit_60 rfl (lv_at hl 1 rfl) ?_
  refine vp_callSi (W.runV (As := []) (rest := [.int (nI (d 0 k)), .ref l0, .ref l1]) ⟨hx, hb, hml, hown, hz⟩ (f_CE_right l dC dI (ad k) (d 0 k) (d 1 k) (d 2 k) (d 3 k) (d 4 k) (d 5 k) (d 6 k) (d 7 k) (d 8 k) (d 9 k) ) (cwV 0 hz (z_gV wd_470 wd_239 wd_240 wd_41 wd_241) rfl rfl rfl (by decide +kernel) ⟨Nat.le_of_ble_eq_true rfl, Nat.le_of_ble_eq_true rfl⟩) (zr_preV hK (zt_one hP (zcs_get rfl (by omega))) (va_recv hK hP (q := (RCE, TCE, 10)) rfl (zcs_get rfl (by omega))) [] rfl z_true (fun _ _ _ => trivial)) rfl rfl hl.1 rfl (lv_room (Nat.le_of_ble_eq_true rfl)) dWI_fit_61 ⟨Nat.le_of_ble_eq_true rfl, Nat.le_of_ble_eq_true rfl⟩) (fun r7 h_r7 => ?_)
  have h_r7 : r7 = nI ((d 0 k) + (d 2 k)) := h_r7
  subst h_r7
  refine zw_callTv (wr := [zob wd 3 [.ref l0, .ref l1, .ref l2, .ref l3], zob l2 4 [.ref p2], zob l3 4 [.ref p3], zar p2 kp2 12 g2, zar p3 kp3 12 g3]) hK hP hD hS hA [2, 6, 1, 5] [0, 3, 4, 7, 8] rfl rfl (by decide) (by decide) (va_runV (As := [.ref l0, .int (nI (d 0 k)), .int (nI ((d 0 k) + (d 2 k)))]) (rest := []) ⟨hx, hb, hml, hown, hz⟩ ((f_LI_raiseTo l dC dI (zcs n ad (zcf d)) l1 p1 kp1 f_5 l0 p0 kp0 f_2 (d 0 k) ((d 0 k) + (d 2 k)) (by omega) (by omega)) H.size) (cwV 3 hz (z_gV wd_487 wd_488 wd_489 wd_35 wd_490) rfl rfl rfl (by decide +kernel) ⟨Nat.le_of_ble_eq_true rfl, Nat.le_of_ble_eq_true rfl⟩) (zw_preVT hK hP hD (va_recv (q0 := 2) hK hP (q := (RLI, TLI, 1)) rfl rfl) [2, 6, 1, 5] (by decide) rfl [1, 0] rfl z_true (fun _ _ _ => trivial)) rfl rfl hl.1 rfl (lv_room (Nat.le_of_ble_eq_true rfl)) dWI_fit_64 ⟨Nat.le_of_ble_eq_true rfl, Nat.le_of_ble_eq_true rfl⟩) (fun u H locs h_r9 hP hD hK hS => ?_)
  obtain ⟨f_8, rfl⟩ : ∃ z, z = u := ⟨_, rfl⟩
  have hP : va_P (dC, dI) vwCl ([zob wd 3 [.ref l0, .ref l1, .ref l2, .ref l3], zob l0 4 [.ref p0], zob l1 4 [.ref p1], zob l2 4 [.ref p2], zob l3 4 [.ref p3], zar p0 kp0 12 f_2, zar p1 kp1 12 f_8, zar p2 kp2 12 g2, zar p3 kp3 12 g3] ++ zcs n ad (zcf d)) H := zt_sub hP [0, 7, 5, 1, 2, 8, 6, 3, 4] rfl
  have hD : va_D A ([zob wd 3 [.ref l0, .ref l1, .ref l2, .ref l3], zob l0 4 [.ref p0], zob l1 4 [.ref p1], zob l2 4 [.ref p2], zob l3 4 [.ref p3], zar p0 kp0 12 f_2, zar p1 kp1 12 f_8, zar p2 kp2 12 g2, zar p3 kp3 12 g3] ++ zcs n ad (zcf d)) := zt_subD hD [0, 7, 5, 1, 2, 8, 6, 3, 4] (by decide) rfl
  have hK : va_K (dC, dI) vwCl [(kp0, .int), (kp1, .int), (kp2, .int), (kp3, .int)] s := hK
  subst hQ
  exact zw_vret (D := (dC, dI)) (cl := vwCl) (A := A) (f_2, f_8, g2, g3) hx hb hr hlocks (trivial) (zt_sub hP [0, 1, 2, 3, 4, 5, 6, 7, 8] rfl) (hK.sub [] rfl) (zt_subD hD [0, 1, 2, 3, 4, 5, 6, 7, 8] (by decide) rfl) hS dWI_fit_67
