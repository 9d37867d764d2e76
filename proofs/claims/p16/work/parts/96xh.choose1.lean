set_option maxHeartbeats 4000000 in
set_option maxRecDepth 100000 in
theorem x_LI_copyOf (l : Launch) (dC : Nat → ClassId) (dI : Nat → Nat → Nat) (T : va_W) (a : Nat) (qa : Nat) (ka : ClassId) (f : Nat → Int32) (b : Nat) (qb : Nat) (kb : ClassId) (fb : Nat → Nat) : zw_Mv (S := Unit) l yLI_copyOf wLI_copyOf ({ frames := 1, cells := 0, slots := 0, locals := 18 }) [.ref a, .ref b] (dC, dI) vwCl ([zob a 4 [.ref qa], zar qa ka 12 f, zob b 4 [.ref qb], zar qb kb 12 (fun j => nI (fb j))] ++ T) [(ka, .int), (kb, .int)] (fun _ _ => True) (fun (_ : Unit) => True) (fun (_ : Unit) => ([zob a 4 [.ref qa], zar qa ka 12 (fun j => nI (fb j)), zob b 4 [.ref qb], zar qb kb 12 (fun j => nI (fb j))] ++ T)) (fun (_ : Unit) => []) 0 0 := by
  refine zw_headv (cc := cLI_copyOf) (maxL := 2) (ret := none) (by decide +kernel) rfl (Nat.le_of_ble_eq_true rfl) ?_
  intro p e s m below meth c ls A F hnm hA hP hK hD hS hX hl
  obtain ⟨hx, hb, hml, hr, hlocks, hown, hts⟩ := F
  have hown : s.vm.findClass "SpannedCells$Lines" = some m.cls := hown
  have hz : ∀ w9 ∈ zT, w9.before [.ref a, .ref b].toArray s = true := fun w9 h => hts w9 (List.mem_cons_of_mem _ h)
  have hl : lv_has ls 2 [(0, .ref a), (1, .ref b)] := hl
  refine z_q (fun Q hQ => ?_)
  refine lv_aload_n hx hb dLI_copyOf_0 rfl (lv_at hl 1 rfl) ?_
  refine va_get (D := (dC, dI)) (ci := 4) (v := .ref qb) (C := RLI) (T := TLI) (N := 1) hx hb hz in_LI hown hK hP 2 rfl rfl 0 (by decide) (hz _ wd_116) (fun _ h9 => h9) rfl dLI_copyOf_1 ?_
  refine lv_iconst (v := nI 0) hx hb dLI_copyOf_4 (by decide) ?_
  refine lv_aload_n hx hb dLI_copyOf_5 rfl (lv_at hl 0 rfl) ?_
  refine va_get (D := (dC, dI)) (ci := 4) (v := .ref qa) (C := RLI) (T := TLI) (N := 1) hx hb hz in_LI hown hK hP 0 rfl rfl 0 (by decide) (hz _ wd_116) (fun _ h9 => h9) rfl dLI_copyOf_6 ?_
  refine lv_iconst (v := nI 0) hx hb dLI_copyOf_9 (by decide) ?_
  refine lv_bipush (v := nI 12) hx hb dLI_copyOf_10 (by decide) ?_
  refine va_copyi hx hb (hml.trans hl.1.symm) hown (hz _ wd_517) (hz _ wd_nat) (hz _ wd_347) (hz _ wd_44) hK hP hD hS 3 1 1 0 rfl rfl rfl rfl rfl (by decide) (by decide) (by decide) (by decide) (by decide) (fun _ _ => rfl) (Nat.le_of_ble_eq_true rfl) (Nat.le_of_ble_eq_true rfl) dLI_copyOf_12 (fun H locs hP hD hS => ?_)
  have hP : va_P (dC, dI) vwCl ([zob a 4 [.ref qa], zar qa ka 12 (va_cpy (fun j => nI (fb j)) f (nI 0).toNatClampNeg (nI 0).toNatClampNeg (nI 12).toNatClampNeg), zob b 4 [.ref qb], zar qb kb 12 (fun j => nI (fb j))] ++ T) H := hP
  have hD : va_D A ([zob a 4 [.ref qa], zar qa ka 12 (va_cpy (fun j => nI (fb j)) f (nI 0).toNatClampNeg (nI 0).toNatClampNeg (nI 12).toNatClampNeg), zob b 4 [.ref qb], zar qb kb 12 (fun j => nI (fb j))] ++ T) := hD
  obtain ⟨w1, e_w⟩ : ∃ f9 : Nat → Int32, f9 = va_cpy (fun j => nI (fb j)) f (nI 0).toNatClampNeg (nI 0).toNatClampNeg (nI 12).toNatClampNeg := ⟨_, rfl⟩
  rw [← e_w] at hP hD
  have hP : va_P (dC, dI) vwCl ([zob a 4 [.ref qa], zar qa ka 12 w1, zob b 4 [.ref qb], zar qb kb 12 (fun j => nI (fb j))] ++ T) H := hP
  have hD : va_D A ([zob a 4 [.ref qa], zar qa ka 12 w1, zob b 4 [.ref qb], zar qb kb 12 (fun j => nI (fb j))] ++ T) := hD
  have hP : va_P (dC, dI) vwCl ([zob a 4 [.ref qa], zar qa ka 12 (fun j => nI (fb j)), zob b 4 [.ref qb], zar qb kb 12 (fun j => nI (fb j))] ++ T) H := zP_arr 1 hP rfl (fun j hj => by rw [e_w]; exact z_cpy12 hj)
  have hD : va_D A ([zob a 4 [.ref qa], zar qa ka 12 (fun j => nI (fb j)), zob b 4 [.ref qb], zar qb kb 12 (fun j => nI (fb j))] ++ T) := va_D.set (p := 1) hD rfl
  subst hQ
  exact zw_vret (D := (dC, dI)) (cl := vwCl) (A := A) () hx hb hr hlocks (trivial) (zt_sub hP [0, 1, 2, 3] rfl) (hK.sub [] rfl) (zt_subD hD [0, 1, 2, 3] (by decide) rfl) hS dLI_copyOf_15

set_option maxHeartbeats 4000000 in
set_option maxRecDepth 100000 in
theorem x_LI_set (l : Launch) (dC : Nat → ClassId) (dI : Nat → Nat → Nat) (T : va_W) (a : Nat) (qa : Nat) (ka : ClassId) (f : Nat → Int32) (i0 : Nat) (x : Int32) (hi0 : i0 < 12) : zw_Mv (S := (Nat → Int32)) l yLI_set wLI_set ({ frames := 0, cells := 0, slots := 0, locals := 0 }) [.ref a, .int (nI i0), .int x] (dC, dI) vwCl ([zob a 4 [.ref qa], zar qa ka 12 f] ++ T) [(ka, .int)] (fun _ _ => True) (fun (f2 : Nat → Int32) => ∀ q, f2 q = if q = i0 then x else f q) (fun (f2 : Nat → Int32) => ([zob a 4 [.ref qa], zar qa ka 12 f2] ++ T)) (fun (f2 : Nat → Int32) => []) 0 0 := by
  refine zw_headv (cc := cLI_set) (maxL := 3) (ret := none) (by decide +kernel) rfl (Nat.le_of_ble_eq_true rfl) ?_
  intro p e s m below meth c ls A F hnm hA hP hK hD hS hX hl
  obtain ⟨hx, hb, hml, hr, hlocks, hown, hts⟩ := F
  have hown : s.vm.findClass "SpannedCells$Lines" = some m.cls := hown
  have hz : ∀ w9 ∈ zT, w9.before [.ref a, .int (nI i0), .int x].toArray s = true := fun w9 h => hts w9 (List.mem_cons_of_mem _ h)
  have hl : lv_has ls 3 [(0, .ref a), (1, .int (nI i0)), (2, .int x)] := hl
  refine z_q (fun Q hQ => ?_)
  refine lv_aload_n hx hb dLI_set_0 rfl (lv_at hl 0 rfl) ?_
  refine va_get (D := (dC, dI)) (ci := 4) (v := .ref qa) (C := RLI) (T := TLI) (N := 1) hx hb hz in_LI hown hK hP 0 rfl rfl 0 (by decide) (hz _ wd_116) (fun _ h9 => h9) rfl dLI_set_1 ?_
  refine lv_iload_n hx hb dLI_set_4 rfl (lv_at hl 1 rfl) ?_
  refine lv_iload_n hx hb dLI_set_5 rfl (lv_at hl 2 rfl) ?_
  refine va_iast hx hb hK hP hD hS 1 0 rfl rfl (vp_in_nI (by omega) (by omega)) dLI_set_6 (fun H locs hP hD hS => ?_)
  have hP : va_P (dC, dI) vwCl ([zob a 4 [.ref qa], zar qa ka 12 (upd f (nI i0).toNatClampNeg x)] ++ T) H := hP
  have hD : va_D A ([zob a 4 [.ref qa], zar qa ka 12 (upd f (nI i0).toNatClampNeg x)] ++ T) := hD
  subst hQ
  exact zw_vret (D := (dC, dI)) (cl := vwCl) (A := A) (upd f (nI i0).toNatClampNeg x) hx hb hr hlocks (z_updq (by omega)) (zt_sub hP [0, 1] rfl) (hK.sub [] rfl) (zt_subD hD [0, 1] (by decide) rfl) hS dLI_set_7

set_option maxHeartbeats 4000000 in
set_option maxRecDepth 100000 in
theorem x_WI_weighByScope (l : Launch) (dC : Nat → ClassId) (dI : Nat → Nat → Nat) (T : va_W) (wd : Nat) (l0 : Nat) (l1 : Nat) (l2 : Nat) (l3 : Nat) (p0 : Nat) (p1 : Nat) (p2 : Nat) (p3 : Nat) (kp0 : ClassId) (kp1 : ClassId) (kp2 : ClassId) (kp3 : ClassId) (L : Nat → Nat) (M : Nat → Nat) (g2 : Nat → Int32) (g3 : Nat → Int32) (cs : Nat) (hcs : cs ≤ 12) (hLM : ∀ q, L q ≤ M q) : zw_Mv (S := (Nat → Int32)) l yWI_weighByScope wWI_weighByScope ({ frames := 1, cells := 0, slots := 0, locals := 22 }) [.ref wd, .int (nI cs)] (dC, dI) vwCl ([zob wd 3 [.ref l0, .ref l1, .ref l2, .ref l3], zob l0 4 [.ref p0], zob l1 4 [.ref p1], zob l2 4 [.ref p2], zob l3 4 [.ref p3], zar p0 kp0 12 (fun j => nI (L j)), zar p1 kp1 12 (fun j => nI (M j)), zar p2 kp2 12 g2, zar p3 kp3 12 g3] ++ T) [(kp0, .int), (kp1, .int), (kp2, .int), (kp3, .int)] (fun _ _ => True) (fun (u3 : Nat → Int32) => ∀ q, q < cs → u3 q = nI (zMl M L q)) (fun (u3 : Nat → Int32) => ([zob wd 3 [.ref l0, .ref l1, .ref l2, .ref l3], zob l0 4 [.ref p0], zob l1 4 [.ref p1], zob l2 4 [.ref p2], zob l3 4 [.ref p3], zar p0 kp0 12 (fun j => nI (L j)), zar p1 kp1 12 (fun j => nI (M j)), zar p2 kp2 12 g2, zar p3 kp3 12 u3] ++ T)) (fun (u3 : Nat → Int32) => []) 0 0 := by
  refine zw_headv (cc := cWI_weighByScope) (maxL := 3) (ret := none) (by decide +kernel) rfl (Nat.le_of_ble_eq_true rfl) ?_
  intro p e s m below meth c ls A F hnm hA hP hK hD hS hX hl
  obtain ⟨hx, hb, hml, hr, hlocks, hown, hts⟩ := F
  have hown : s.vm.findClass "SpannedCells$Widths" = some m.cls := hown
  have hz : ∀ w9 ∈ zT, w9.before [.ref wd, .int (nI cs)].toArray s = true := fun w9 h => hts w9 (List.mem_cons_of_mem _ h)
  have hl : lv_has ls 3 [(0, .ref wd), (1, .int (nI cs))] := hl
  refine z_q (fun Q hQ => ?_)
  refine lv_iconst (v := nI 0) hx hb dWI_weighByScope_0 (by decide) ?_
  refine lv_istore_n hx hb dWI_weighByScope_1 rfl hl (Nat.le_of_ble_eq_true rfl) rfl (fun ls hl => ?_)
  have hl : lv_has ls 3 [(2, .int (nI 0)), (0, .ref wd), (1, .int (nI cs))] := hl
  refine zl_upW (σ := (Nat → Int32)) cs (fun i fo ls H locs => lv_has ls 3 [(2, .int (nI i)), (1, .int (nI cs)), (0, .ref wd)] ∧ (∀ q, q < i → fo q = nI (zMl M L q)) ∧ va_P (dC, dI) vwCl ([zob wd 3 [.ref l0, .ref l1, .ref l2, .ref l3], zob l0 4 [.ref p0], zob l1 4 [.ref p1], zob l2 4 [.ref p2], zob l3 4 [.ref p3], zar p0 kp0 12 (fun j => nI (L j)), zar p1 kp1 12 (fun j => nI (M j)), zar p2 kp2 12 g2, zar p3 kp3 12 fo] ++ T) H ∧ va_D A ([zob wd 3 [.ref l0, .ref l1, .ref l2, .ref l3], zob l0 4 [.ref p0], zob l1 4 [.ref p1], zob l2 4 [.ref p2], zob l3 4 [.ref p3], zar p0 kp0 12 (fun j => nI (L j)), zar p1 kp1 12 (fun j => nI (M j)), zar p2 kp2 12 g2, zar p3 kp3 12 fo] ++ T) ∧ va_S A s.heap H locs) ?_ ?_ 0 (Nat.zero_le _) g3 ls s.heap [] ⟨lv_sub hl [0, 2, 1] rfl, fun q h9 => absurd h9 (Nat.not_lt_zero _), hP, hD, hS⟩
  · intro x9 ls H locs hI
    obtain ⟨fo, rfl⟩ : ∃ z, z = x9 := ⟨_, rfl⟩
    obtain ⟨hl, hxI, hP, hD, hS⟩ := hI
    have hl : lv_has ls 3 [(2, .int (nI cs)), (1, .int (nI cs)), (0, .ref wd)] := hl
    have hP : va_P (dC, dI) vwCl ([zob wd 3 [.ref l0, .ref l1, .ref l2, .ref l3], zob l0 4 [.ref p0], zob l1 4 [.ref p1], zob l2 4 [.ref p2], zob l3 4 [.ref p3], zar p0 kp0 12 (fun j => nI (L j)), zar p1 kp1 12 (fun j => nI (M j)), zar p2 kp2 12 g2, zar p3 kp3 12 fo] ++ T) H := hP
    have hD : va_D A ([zob wd 3 [.ref l0, .ref l1, .ref l2, .ref l3], zob l0 4 [.ref p0], zob l1 4 [.ref p1], zob l2 4 [.ref p2], zob l3 4 [.ref p3], zar p0 kp0 12 (fun j => nI (L j)), zar p1 kp1 12 (fun j => nI (M j)), zar p2 kp2 12 g2, zar p3 kp3 12 fo] ++ T) := hD
    refine lv_iload_n hx hb dWI_weighByScope_2 rfl (lv_at hl 0 rfl) ?_
    refine lv_iload_n hx hb dWI_weighByScope_3 rfl (lv_at hl 1 rfl) ?_
    have t1 := nI_toInt (n := cs) (by omega)
    have t2 := nI_toInt (n := cs) (by omega)
    refine lv_icmp_ge (tgt := 38) hx hb dWI_weighByScope_4 rfl (fun _ => ?_) (fun h => by have h := z_nle h; omega)
    subst hQ
    exact zw_vret (D := (dC, dI)) (cl := vwCl) (A := A) fo hx hb hr hlocks (hxI) (zt_sub hP [0, 1, 2, 3, 4, 5, 6, 7, 8] rfl) (hK.sub [] rfl) (zt_subD hD [0, 1, 2, 3, 4, 5, 6, 7, 8] (by decide) rfl) hS dWI_weighByScope_38
  · intro i hi ih
    intro x9 ls H locs hI
    obtain ⟨fo, rfl⟩ : ∃ z, z = x9 := ⟨_, rfl⟩
    obtain ⟨hl, hxI, hP, hD, hS⟩ := hI
    have hl : lv_has ls 3 [(2, .int (nI i)), (1, .int (nI cs)), (0, .ref wd)] := hl
    have hP : va_P (dC, dI) vwCl ([zob wd 3 [.ref l0, .ref l1, .ref l2, .ref l3], zob l0 4 [.ref p0], zob l1 4 [.ref p1], zob l2 4 [.ref p2], zob l3 4 [.ref p3], zar p0 kp0 12 (fun j => nI (L j)), zar p1 kp1 12 (fun j => nI (M j)), zar p2 kp2 12 g2, zar p3 kp3 12 fo] ++ T) H := hP
    have hD : va_D A ([zob wd 3 [.ref l0, .ref l1, .ref l2, .ref l3], zob l0 4 [.ref p0], zob l1 4 [.ref p1], zob l2 4 [.ref p2], zob l3 4 [.ref p3], zar p0 kp0 12 (fun j => nI (L j)), zar p1 kp1 12 (fun j => nI (M j)), zar p2 kp2 12 g2, zar p3 kp3 12 fo] ++ T) := hD
    refine lv_iload_n hx hb dWI_weighByScope_2 rfl (lv_at hl 0 rfl) ?_
    refine lv_iload_n hx hb dWI_weighByScope_3 rfl (lv_at hl 1 rfl) ?_
    have t3 := nI_toInt (n := i) (by omega)
    have t4 := nI_toInt (n := cs) (by omega)
    refine lv_icmp_ge (tgt := 38) hx hb dWI_weighByScope_4 rfl (fun h => by have h := z_le h; omega) (fun _ => ?_)
    refine lv_aload_n hx hb dWI_weighByScope_7 rfl (lv_at hl 2 rfl) ?_
    refine va_get (D := (dC, dI)) (ci := 3) (v := .ref l3) (C := RWI) (T := TWI) (N := 4) hx hb hz in_WI hown hK hP 0 rfl rfl 3 (by decide) (hz _ wd_127) (fun _ h9 => h9) rfl dWI_weighByScope_8 ?_
    refine lv_iload_n hx hb dWI_weighByScope_11 rfl (lv_at hl 0 rfl) ?_
    refine lv_aload_n hx hb dWI_weighByScope_12 rfl (lv_at hl 2 rfl) ?_
    refine va_get (D := (dC, dI)) (ci := 3) (v := .ref l1) (C := RWI) (T := TWI) (N := 4) hx hb hz in_WI hown hK hP 0 rfl rfl 1 (by decide) (hz _ wd_123) (fun _ h9 => h9) rfl dWI_weighByScope_13 ?_
    refine lv_iload_n hx hb dWI_weighByScope_16 rfl (lv_at hl 0 rfl) ?_
    refine vp_callSi (W.runV (As := [.int (nI i)]) (rest := [.int (nI i), .ref l3]) ⟨hx, hb, hml, hown, hz⟩ (x_LI_sizeOf l dC dI l1 p1 kp1 M i (by omega)) (cwV 1 hz (z_gV wd_522 wd_493 wd_494 wd_35 wd_495) rfl rfl rfl (by decide +kernel) ⟨Nat.le_of_ble_eq_true rfl, Nat.le_of_ble_eq_true rfl⟩) (zr_preV hK (hP.sub [2, 6] rfl) (va_recv (q0 := 2) hK hP (q := (RLI, TLI, 1)) rfl rfl) [1] rfl z_true (fun _ _ _ => trivial)) rfl rfl hl.1 rfl (lv_room (Nat.le_of_ble_eq_true rfl)) dWI_weighByScope_17 ⟨Nat.le_of_ble_eq_true rfl, Nat.le_of_ble_eq_true rfl⟩) (fun r5 h_r5 => ?_)
    have h_r5 : r5 = nI (M i) := h_r5
    subst h_r5
    refine lv_aload_n hx hb dWI_weighByScope_20 rfl (lv_at hl 2 rfl) ?_
    refine va_get (D := (dC, dI)) (ci := 3) (v := .ref l0) (C := RWI) (T := TWI) (N := 4) hx hb hz in_WI hown hK hP 0 rfl rfl 0 (by decide) (hz _ wd_121) (fun _ h9 => h9) rfl dWI_weighByScope_21 ?_
    refine lv_iload_n hx hb dWI_weighByScope_24 rfl (lv_at hl 0 rfl) ?_
    refine vp_callSi (W.runV (As := [.int (nI i)]) (rest := [.int (nI (M i)), .int (nI i), .ref l3]) ⟨hx, hb, hml, hown, hz⟩ (x_LI_sizeOf l dC dI l0 p0 kp0 L i (by omega)) (cwV 1 hz (z_gV wd_522 wd_493 wd_494 wd_35 wd_495) rfl rfl rfl (by decide +kernel) ⟨Nat.le_of_ble_eq_true rfl, Nat.le_of_ble_eq_true rfl⟩) (zr_preV hK (hP.sub [1, 5] rfl) (va_recv (q0 := 1) hK hP (q := (RLI, TLI, 1)) rfl rfl) [0] rfl z_true (fun _ _ _ => trivial)) rfl rfl hl.1 rfl (lv_room (Nat.le_of_ble_eq_true rfl)) dWI_weighByScope_25 ⟨Nat.le_of_ble_eq_true rfl, Nat.le_of_ble_eq_true rfl⟩) (fun r6 h_r6 => ?_)
    have h_r6 : r6 = nI (L i) := h_r6
    subst h_r6
    have hlm := hLM i
    refine lv_isub hx hb dWI_weighByScope_28 ?_
    refine lv_topi (fun x7 e8 => ?_)
    have e8 : x7 = nI (zMl M L i) := e8.trans (pk_sub (by omega))
    subst e8
    refine zw_callTv (wr := [zob wd 3 [.ref l0, .ref l1, .ref l2, .ref l3], zob l0 4 [.ref p0], zob l1 4 [.ref p1], zob l2 4 [.ref p2], zar p0 kp0 12 (fun j => nI (L j)), zar p1 kp1 12 (fun j => nI (M j)), zar p2 kp2 12 g2]) hK hP hD hS hA [4, 8] [0, 1, 2, 3, 5, 6, 7] rfl rfl (by decide) (by decide) (va_runV (As := [.int (nI i), .int (nI (zMl M L i))]) (rest := []) ⟨hx, hb, hml, hown, hz⟩ ((x_LI_set l dC dI T l3 p3 kp3 fo i (nI (zMl M L i)) (by omega)) H.size) (cwV 2 hz (z_gV wd_523 wd_524 wd_525 wd_35 wd_526) rfl rfl rfl (by decide +kernel) ⟨Nat.le_of_ble_eq_true rfl, Nat.le_of_ble_eq_true rfl⟩) (zw_preVT hK hP hD (va_recv (q0 := 4) hK hP (q := (RLI, TLI, 1)) rfl rfl) [4, 8] (by decide) rfl [3] rfl z_true (fun _ _ _ => trivial)) rfl rfl hl.1 rfl (lv_room (Nat.le_of_ble_eq_true rfl)) dWI_weighByScope_29 ⟨Nat.le_of_ble_eq_true rfl, Nat.le_of_ble_eq_true rfl⟩) (fun u H locs h_st hP hD hK hS => ?_)
    obtain ⟨s_3, rfl⟩ : ∃ z, z = u := ⟨_, rfl⟩
    have hP : va_P (dC, dI) vwCl ([zob wd 3 [.ref l0, .ref l1, .ref l2, .ref l3], zob l0 4 [.ref p0], zob l1 4 [.ref p1], zob l2 4 [.ref p2], zob l3 4 [.ref p3], zar p0 kp0 12 (fun j => nI (L j)), zar p1 kp1 12 (fun j => nI (M j)), zar p2 kp2 12 g2, zar p3 kp3 12 s_3] ++ T) H := zt_sub hP [0, 1, 2, 3, 7, 4, 5, 6, 8] rfl
    have hD : va_D A ([zob wd 3 [.ref l0, .ref l1, .ref l2, .ref l3], zob l0 4 [.ref p0], zob l1 4 [.ref p1], zob l2 4 [.ref p2], zob l3 4 [.ref p3], zar p0 kp0 12 (fun j => nI (L j)), zar p1 kp1 12 (fun j => nI (M j)), zar p2 kp2 12 g2, zar p3 kp3 12 s_3] ++ T) := zt_subD hD [0, 1, 2, 3, 7, 4, 5, 6, 8] (by decide) rfl
    have hK : va_K (dC, dI) vwCl [(kp0, .int), (kp1, .int), (kp2, .int), (kp3, .int)] s := hK
    have h_st : ∀ q, s_3 q = if q = i then (nI (zMl M L i)) else fo q := h_st
    refine lv_iinc (k := 0) (v := nI (i + 1)) hx hb dWI_weighByScope_32 hl rfl (by rw [show Int32.ofInt 1 = nI 1 from by decide]; exact nI_add _ _) (Nat.le_of_ble_eq_true rfl) rfl (fun ls hl => ?_)
    have hl : lv_has ls 3 [(2, .int (nI (i + 1))), (1, .int (nI cs)), (0, .ref wd)] := hl
    refine lv_goto (tgt := 2) hx hb dWI_weighByScope_35 rfl ?_
    exact ih s_3 ls H locs ⟨lv_sub hl [0, 1, 2] rfl, z_setq hxI h_st, hP, hD, hS⟩
