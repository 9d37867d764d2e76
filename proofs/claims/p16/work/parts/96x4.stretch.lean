set_option maxHeartbeats 4000000 in
set_option maxRecDepth 100000 in
theorem x_LI_stretchA (l : Launch) (dC : Nat → ClassId) (dI : Nat → Nat → Nat) (T : va_W) (a : Nat) (qa : Nat) (ka : ClassId) (f : Nat → Nat) (wv : Nat) (gp : Nat) (i0 : Nat) (e0 : Nat) (hi0 : i0 ≤ e0) (he0 : e0 ≤ 12) (hlt : i0 < e0) (hf : ∀ j, f j ≤ 20000) (hwv : wv ≤ 20000) (hgp : gp ≤ 1000) : zw_Mv (S := (Nat → Nat)) l yLI_stretch wLI_stretch ({ frames := 2, cells := 0, slots := 0, locals := 55 }) [.ref a, .int (nI wv), .int (nI gp), .ref a, .int (nI i0), .int (nI e0)] (dC, dI) vwCl ([zob a 4 [.ref qa], zar qa ka 12 (fun j => nI (f j))] ++ T) [(ka, .int)] (fun _ _ => True) (fun (f2 : Nat → Nat) => f2 = zStr f f wv gp i0 e0) (fun (f2 : Nat → Nat) => ([zob a 4 [.ref qa], zar qa ka 12 (fun j => nI (f2 j))] ++ T)) (fun (f2 : Nat → Nat) => []) 0 0 := by
  refine zw_headv (cc := cLI_stretch) (maxL := 7) (ret := none) (by decide +kernel) rfl (Nat.le_of_ble_eq_true rfl) ?_
  intro p e s m below meth c ls A F hnm hA hP hK hD hS hX hl
  obtain ⟨hx, hb, hml, hr, hlocks, hown, hts⟩ := F
  have hown : s.vm.findClass "SpannedCells$Lines" = some m.cls := hown
  have hz : ∀ w9 ∈ zT, w9.before [.ref a, .int (nI wv), .int (nI gp), .ref a, .int (nI i0), .int (nI e0)].toArray s = true := fun w9 h => hts w9 (List.mem_cons_of_mem _ h)
  have hl : lv_has ls 7 [(0, .ref a), (1, .int (nI wv)), (2, .int (nI gp)), (3, .ref a), (4, .int (nI i0)), (5, .int (nI e0))] := hl
  refine z_q (fun Q hQ => ?_)
  have hRc := zRc_le (i0 := i0) hf hgp he0
  refine lv_iload_n hx hb dLI_stretch_0 rfl (lv_at hl 1 rfl) ?_
  refine lv_aload_n hx hb dLI_stretch_1 rfl (lv_at hl 0 rfl) ?_
  refine lv_iload hx hb dLI_stretch_2 (lv_at hl 4 rfl) ?_
  refine lv_iload hx hb dLI_stretch_4 (lv_at hl 5 rfl) ?_
  refine lv_iload_n hx hb dLI_stretch_6 rfl (lv_at hl 2 rfl) ?_
  refine vp_callSi (W.runV (As := [.int (nI i0), .int (nI e0), .int (nI gp)]) (rest := [.int (nI wv)]) ⟨hx, hb, hml, hown, hz⟩ (x_LI_reach l dC dI a qa ka f i0 e0 gp (by omega) (by omega) (by omega)) (cwV 3 hz (z_gV wd_475 wd_476 wd_477 wd_35 wd_478) rfl rfl rfl (by decide +kernel) ⟨Nat.le_of_ble_eq_true rfl, Nat.le_of_ble_eq_true rfl⟩) (zr_preV hK (hP.sub [0, 1] rfl) (va_recv (q0 := 0) hK hP (q := (RLI, TLI, 1)) rfl rfl) [0] rfl z_true (fun _ _ _ => trivial)) rfl rfl hl.1 rfl (lv_room (Nat.le_of_ble_eq_true rfl)) dLI_stretch_7 ⟨Nat.le_of_ble_eq_true rfl, Nat.le_of_ble_eq_true rfl⟩) (fun r1 h_r1 => ?_)
  have h_r1 : r1 = nI (zRc f gp i0 e0) := h_r1
  subst h_r1
  refine lv_isub hx hb dLI_stretch_10 ?_
  refine lv_istore hx hb dLI_stretch_11 hl (Nat.le_of_ble_eq_true rfl) rfl (fun ls hl => ?_)
  have hl : lv_has ls 7 [(6, .int ((nI wv) - (nI (zRc f gp i0 e0)))), (0, .ref a), (1, .int (nI wv)), (2, .int (nI gp)), (3, .ref a), (4, .int (nI i0)), (5, .int (nI e0))] := hl
  refine lv_iload hx hb dLI_stretch_13 (lv_at hl 0 rfl) ?_
  have t2 := pk_sub_toInt (a := wv) (b := zRc f gp i0 e0) (by omega) (by omega)
  have t3 : (0 : Int32).toInt = 0 := by decide
  refine lv_if_le (tgt := 29) hx hb dLI_stretch_15 rfl (fun h_e => ?_) (fun h_e => ?_)
  · have h_e := z_le h_e
    subst hQ
    exact zw_vret (D := (dC, dI)) (cl := vwCl) (A := A) f hx hb hr hlocks ((zStr_F (by omega)).symm) (zt_sub hP [0, 1] rfl) (hK.sub [] rfl) (zt_subD hD [0, 1] (by decide) rfl) hS dLI_stretch_29
  · have h_e := z_nle h_e
    refine lv_aload_n hx hb dLI_stretch_18 rfl (lv_at hl 1 rfl) ?_
    refine lv_iload hx hb dLI_stretch_19 (lv_at hl 0 rfl) ?_
    refine lv_topi (fun x5 e6 => ?_)
    have e6 : x5 = nI (wv - zRc f gp i0 e0) := e6.trans (pk_sub (by omega))
    subst e6
    refine lv_aload_n hx hb dLI_stretch_21 rfl (lv_at hl 4 rfl) ?_
    refine lv_iload hx hb dLI_stretch_22 (lv_at hl 5 rfl) ?_
    refine lv_iload hx hb dLI_stretch_24 (lv_at hl 6 rfl) ?_
    refine zw_callTv (wr := []) hK hP hD hS hA [0, 1] [] rfl rfl (by decide) (by decide) (va_runV (As := [.int (nI (wv - zRc f gp i0 e0)), .ref a, .int (nI i0), .int (nI e0)]) (rest := []) ⟨hx, hb, hml, hown, hz⟩ ((x_LI_shareOutA l dC dI T a qa ka f (wv - zRc f gp i0 e0) i0 e0 (by omega) (by omega) (by omega) (hf) (by omega)) s.heap.size) (cwV 4 hz (z_gV wd_483 wd_484 wd_485 wd_35 wd_486) rfl rfl rfl (by decide +kernel) ⟨Nat.le_of_ble_eq_true rfl, Nat.le_of_ble_eq_true rfl⟩) (zw_preVT hK hP hD (va_recv (q0 := 0) hK hP (q := (RLI, TLI, 1)) rfl rfl) [0, 1] (by decide) rfl [0] rfl z_true (fun _ _ _ => trivial)) rfl rfl hl.1 rfl (lv_room (Nat.le_of_ble_eq_true rfl)) dLI_stretch_26 ⟨Nat.le_of_ble_eq_true rfl, Nat.le_of_ble_eq_true rfl⟩) (fun u H locs h_rs hP hD hK hS => ?_)
    obtain ⟨f_2, rfl⟩ : ∃ z, z = u := ⟨_, rfl⟩
    have hP : va_P (dC, dI) vwCl ([zob a 4 [.ref qa], zar qa ka 12 (fun j => nI (f_2 j))] ++ T) H := zt_sub hP [0, 1] rfl
    have hD : va_D A ([zob a 4 [.ref qa], zar qa ka 12 (fun j => nI (f_2 j))] ++ T) := zt_subD hD [0, 1] (by decide) rfl
    have hK : va_K (dC, dI) vwCl [(ka, .int)] s := hK
    have h_rs : f_2 = zShr f f (wv - zRc f gp i0 e0) i0 e0 := h_rs
    subst hQ
    exact zw_vret (D := (dC, dI)) (cl := vwCl) (A := A) f_2 hx hb hr hlocks (h_rs.trans (zStr_T (by omega)).symm) (zt_sub hP [0, 1] rfl) (hK.sub [] rfl) (zt_subD hD [0, 1] (by decide) rfl) hS dLI_stretch_29

set_option maxHeartbeats 4000000 in
set_option maxRecDepth 100000 in
theorem x_LI_stretch (l : Launch) (dC : Nat → ClassId) (dI : Nat → Nat → Nat) (T : va_W) (a : Nat) (qa : Nat) (ka : ClassId) (f : Nat → Nat) (b : Nat) (qb : Nat) (kb : ClassId) (gb : Nat → Int32) (fb : Nat → Nat) (wv : Nat) (gp : Nat) (i0 : Nat) (e0 : Nat) (hi0 : i0 ≤ e0) (he0 : e0 ≤ 12) (hlt : i0 < e0) (hf : ∀ j, f j ≤ 20000) (hfb : ∀ j, fb j ≤ 20000) (hvb : ∀ j, i0 ≤ j → j < e0 → gb j = nI (fb j)) (hwv : wv ≤ 20000) (hgp : gp ≤ 1000) : zw_Mv (S := (Nat → Nat)) l yLI_stretch wLI_stretch ({ frames := 2, cells := 0, slots := 0, locals := 55 }) [.ref a, .int (nI wv), .int (nI gp), .ref b, .int (nI i0), .int (nI e0)] (dC, dI) vwCl ([zob a 4 [.ref qa], zar qa ka 12 (fun j => nI (f j)), zob b 4 [.ref qb], zar qb kb 12 gb] ++ T) [(ka, .int), (kb, .int)] (fun _ _ => True) (fun (f2 : Nat → Nat) => f2 = zStr f fb wv gp i0 e0) (fun (f2 : Nat → Nat) => ([zob a 4 [.ref qa], zar qa ka 12 (fun j => nI (f2 j)), zob b 4 [.ref qb], zar qb kb 12 gb] ++ T)) (fun (f2 : Nat → Nat) => []) 0 0 := by
  refine zw_headv (cc := cLI_stretch) (maxL := 7) (ret := none) (by decide +kernel) rfl (Nat.le_of_ble_eq_true rfl) ?_
  intro p e s m below meth c ls A F hnm hA hP hK hD hS hX hl
  obtain ⟨hx, hb, hml, hr, hlocks, hown, hts⟩ := F
  have hown : s.vm.findClass "SpannedCells$Lines" = some m.cls := hown
  have hz : ∀ w9 ∈ zT, w9.before [.ref a, .int (nI wv), .int (nI gp), .ref b, .int (nI i0), .int (nI e0)].toArray s = true := fun w9 h => hts w9 (List.mem_cons_of_mem _ h)
  have hl : lv_has ls 7 [(0, .ref a), (1, .int (nI wv)), (2, .int (nI gp)), (3, .ref b), (4, .int (nI i0)), (5, .int (nI e0))] := hl
  refine z_q (fun Q hQ => ?_)
  have hRc := zRc_le (i0 := i0) hf hgp he0
  refine lv_iload_n hx hb dLI_stretch_0 rfl (lv_at hl 1 rfl) ?_
  refine lv_aload_n hx hb dLI_stretch_1 rfl (lv_at hl 0 rfl) ?_
  refine lv_iload hx hb dLI_stretch_2 (lv_at hl 4 rfl) ?_
  refine lv_iload hx hb dLI_stretch_4 (lv_at hl 5 rfl) ?_
  refine lv_iload_n hx hb dLI_stretch_6 rfl (lv_at hl 2 rfl) ?_
  refine vp_callSi (W.runV (As := [.int (nI i0), .int (nI e0), .int (nI gp)]) (rest := [.int (nI wv)]) ⟨hx, hb, hml, hown, hz⟩ (x_LI_reach l dC dI a qa ka f i0 e0 gp (by omega) (by omega) (by omega)) (cwV 3 hz (z_gV wd_475 wd_476 wd_477 wd_35 wd_478) rfl rfl rfl (by decide +kernel) ⟨Nat.le_of_ble_eq_true rfl, Nat.le_of_ble_eq_true rfl⟩) (zr_preV hK (hP.sub [0, 1] rfl) (va_recv (q0 := 0) hK hP (q := (RLI, TLI, 1)) rfl rfl) [0] rfl z_true (fun _ _ _ => trivial)) rfl rfl hl.1 rfl (lv_room (Nat.le_of_ble_eq_true rfl)) dLI_stretch_7 ⟨Nat.le_of_ble_eq_true rfl, Nat.le_of_ble_eq_true rfl⟩) (fun r1 h_r1 => ?_)
  have h_r1 : r1 = nI (zRc f gp i0 e0) := h_r1
  subst h_r1
  refine lv_isub hx hb dLI_stretch_10 ?_
  refine lv_istore hx hb dLI_stretch_11 hl (Nat.le_of_ble_eq_true rfl) rfl (fun ls hl => ?_)
  have hl : lv_has ls 7 [(6, .int ((nI wv) - (nI (zRc f gp i0 e0)))), (0, .ref a), (1, .int (nI wv)), (2, .int (nI gp)), (3, .ref b), (4, .int (nI i0)), (5, .int (nI e0))] := hl
  refine lv_iload hx hb dLI_stretch_13 (lv_at hl 0 rfl) ?_
  have t2 := pk_sub_toInt (a := wv) (b := zRc f gp i0 e0) (by omega) (by omega)
  have t3 : (0 : Int32).toInt = 0 := by decide
  refine lv_if_le (tgt := 29) hx hb dLI_stretch_15 rfl (fun h_e => ?_) (fun h_e => ?_)
  · have h_e := z_le h_e
    subst hQ
    exact zw_vret (D := (dC, dI)) (cl := vwCl) (A := A) f hx hb hr hlocks ((zStr_F (by omega)).symm) (zt_sub hP [0, 1, 2, 3] rfl) (hK.sub [] rfl) (zt_subD hD [0, 1, 2, 3] (by decide) rfl) hS dLI_stretch_29
  · have h_e := z_nle h_e
    refine lv_aload_n hx hb dLI_stretch_18 rfl (lv_at hl 1 rfl) ?_
    refine lv_iload hx hb dLI_stretch_19 (lv_at hl 0 rfl) ?_
    refine lv_topi (fun x5 e6 => ?_)
    have e6 : x5 = nI (wv - zRc f gp i0 e0) := e6.trans (pk_sub (by omega))
    subst e6
    refine lv_aload_n hx hb dLI_stretch_21 rfl (lv_at hl 4 rfl) ?_
    refine lv_iload hx hb dLI_stretch_22 (lv_at hl 5 rfl) ?_
    refine lv_iload hx hb dLI_stretch_24 (lv_at hl 6 rfl) ?_
    refine zw_callTv (wr := []) hK hP hD hS hA [0, 1, 2, 3] [] rfl rfl (by decide) (by decide) (va_runV (As := [.int (nI (wv - zRc f gp i0 e0)), .ref b, .int (nI i0), .int (nI e0)]) (rest := []) ⟨hx, hb, hml, hown, hz⟩ ((x_LI_shareOut l dC dI T a qa ka f b qb kb gb fb (wv - zRc f gp i0 e0) i0 e0 (by omega) (by omega) (by omega) (hf) (hfb) (hvb) (by omega)) s.heap.size) (cwV 4 hz (z_gV wd_483 wd_484 wd_485 wd_35 wd_486) rfl rfl rfl (by decide +kernel) ⟨Nat.le_of_ble_eq_true rfl, Nat.le_of_ble_eq_true rfl⟩) (zw_preVT hK hP hD (va_recv (q0 := 0) hK hP (q := (RLI, TLI, 1)) rfl rfl) [0, 1, 2, 3] (by decide) rfl [0, 1] rfl z_true (fun _ _ _ => trivial)) rfl rfl hl.1 rfl (lv_room (Nat.le_of_ble_eq_true rfl)) dLI_stretch_26 ⟨Nat.le_of_ble_eq_true rfl, Nat.le_of_ble_eq_true rfl⟩) (fun u H locs h_rs hP hD hK hS => ?_)
    obtain ⟨f_2, rfl⟩ : ∃ z, z = u := ⟨_, rfl⟩
    have hP : va_P (dC, dI) vwCl ([zob a 4 [.ref qa], zar qa ka 12 (fun j => nI (f_2 j)), zob b 4 [.ref qb], zar qb kb 12 gb] ++ T) H := zt_sub hP [0, 1, 2, 3] rfl
    have hD : va_D A ([zob a 4 [.ref qa], zar qa ka 12 (fun j => nI (f_2 j)), zob b 4 [.ref qb], zar qb kb 12 gb] ++ T) := zt_subD hD [0, 1, 2, 3] (by decide) rfl
    have hK : va_K (dC, dI) vwCl [(ka, .int), (kb, .int)] s := hK
    have h_rs : f_2 = zShr f fb (wv - zRc f gp i0 e0) i0 e0 := h_rs
    subst hQ
    exact zw_vret (D := (dC, dI)) (cl := vwCl) (A := A) f_2 hx hb hr hlocks (h_rs.trans (zStr_T (by omega)).symm) (zt_sub hP [0, 1, 2, 3] rfl) (hK.sub [] rfl) (zt_subD hD [0, 1, 2, 3] (by decide) rfl) hS dLI_stretch_29

set_option maxHeartbeats 4000000 in
set_option maxRecDepth 100000 in
theorem x_AR_fill (l : Launch) (dC : Nat → ClassId) (dI : Nat → Nat → Nat) (T : va_W) (qa : Nat) (ka : ClassId) (f : Nat → Int32) : zw_Mv (S := Unit) l yAR_fill wAR_fill ({ frames := 0, cells := 0, slots := 0, locals := 0 }) [.ref qa, .int (nI 0)] (dC, dI) vwCl ([zar qa ka 12 f] ++ T) [(ka, .int)] (fun _ _ => True) (fun (_ : Unit) => True) (fun (_ : Unit) => ([zar qa ka 12 (fun j => nI (zO j))] ++ T)) (fun (_ : Unit) => []) 0 0 := by
  refine zw_headv (cc := cAR_fill) (maxL := 4) (ret := none) (by decide +kernel) rfl (Nat.le_of_ble_eq_true rfl) ?_
  intro p e s m below meth c ls A F hnm hA hP hK hD hS hX hl
  obtain ⟨hx, hb, hml, hr, hlocks, hown, hts⟩ := F
  have hown : s.vm.findClass "java/util/Arrays" = some m.cls := hown
  have hz : ∀ w9 ∈ zT, w9.before [.ref qa, .int (nI 0)].toArray s = true := fun w9 h => hts w9 (List.mem_cons_of_mem _ h)
  have hl : lv_has ls 4 [(0, .ref qa), (1, .int (nI 0))] := hl
  refine z_q (fun Q hQ => ?_)
  refine lv_iconst (v := nI 0) hx hb dAR_fill_0 (by decide) ?_
  refine lv_istore_n hx hb dAR_fill_1 rfl hl (Nat.le_of_ble_eq_true rfl) rfl (fun ls hl => ?_)
  have hl : lv_has ls 4 [(2, .int (nI 0)), (0, .ref qa), (1, .int (nI 0))] := hl
  refine lv_aload_n hx hb dAR_fill_2 rfl (lv_at hl 1 rfl) ?_
  refine va_alen (v := nI 12) hx hb hK hP 0 0 rfl rfl rfl dAR_fill_3 ?_
  refine lv_istore_n hx hb dAR_fill_4 rfl hl (Nat.le_of_ble_eq_true rfl) rfl (fun ls hl => ?_)
  have hl : lv_has ls 4 [(3, .int (nI 12)), (2, .int (nI 0)), (0, .ref qa), (1, .int (nI 0))] := hl
  refine zl_upW (σ := (Nat → Int32)) 12 (fun i fo ls H locs => lv_has ls 4 [(2, .int (nI i)), (3, .int (nI 12)), (1, .int (nI 0)), (0, .ref qa)] ∧ (∀ q, q < i → fo q = nI (zO q)) ∧ va_P (dC, dI) vwCl ([zar qa ka 12 fo] ++ T) H ∧ va_D A ([zar qa ka 12 fo] ++ T) ∧ va_S A s.heap H locs) ?_ ?_ 0 (by decide) f ls s.heap [] ⟨lv_sub hl [1, 0, 3, 2] rfl, fun q h9 => absurd h9 (Nat.not_lt_zero _), hP, hD, hS⟩
  · intro x9 ls H locs hI
    obtain ⟨fo, rfl⟩ : ∃ z, z = x9 := ⟨_, rfl⟩
    obtain ⟨hl, hxI, hP, hD, hS⟩ := hI
    have hl : lv_has ls 4 [(2, .int (nI 12)), (3, .int (nI 12)), (1, .int (nI 0)), (0, .ref qa)] := hl
    have hP : va_P (dC, dI) vwCl ([zar qa ka 12 fo] ++ T) H := hP
    have hD : va_D A ([zar qa ka 12 fo] ++ T) := hD
    refine lv_iload_n hx hb dAR_fill_5 rfl (lv_at hl 0 rfl) ?_
    refine lv_iload_n hx hb dAR_fill_6 rfl (lv_at hl 1 rfl) ?_
    refine lv_icmp_ge (tgt := 20) hx hb dAR_fill_7 rfl (fun _ => ?_) (fun h => absurd (by decide) h)
    have hP : va_P (dC, dI) vwCl ([zar qa ka 12 (fun j => nI (zO j))] ++ T) H := zP_arr 0 hP rfl (hxI)
    have hD : va_D A ([zar qa ka 12 (fun j => nI (zO j))] ++ T) := va_D.set (p := 0) hD rfl
    subst hQ
    exact zw_vret (D := (dC, dI)) (cl := vwCl) (A := A) () hx hb hr hlocks (trivial) (zt_sub hP [0] rfl) (hK.sub [] rfl) (zt_subD hD [0] (by decide) rfl) hS dAR_fill_20
  · intro i hi ih
    intro x9 ls H locs hI
    obtain ⟨fo, rfl⟩ : ∃ z, z = x9 := ⟨_, rfl⟩
    obtain ⟨hl, hxI, hP, hD, hS⟩ := hI
    have hl : lv_has ls 4 [(2, .int (nI i)), (3, .int (nI 12)), (1, .int (nI 0)), (0, .ref qa)] := hl
    have hP : va_P (dC, dI) vwCl ([zar qa ka 12 fo] ++ T) H := hP
    have hD : va_D A ([zar qa ka 12 fo] ++ T) := hD
    refine lv_iload_n hx hb dAR_fill_5 rfl (lv_at hl 0 rfl) ?_
    refine lv_iload_n hx hb dAR_fill_6 rfl (lv_at hl 1 rfl) ?_
    have t1 := nI_toInt (n := i) (by omega)
    have t2 := nI_toInt (n := 12) (by omega)
    refine lv_icmp_ge (tgt := 20) hx hb dAR_fill_7 rfl (fun h => by have h := z_le h; omega) (fun _ => ?_)
    refine lv_aload_n hx hb dAR_fill_10 rfl (lv_at hl 3 rfl) ?_
    refine lv_iload_n hx hb dAR_fill_11 rfl (lv_at hl 0 rfl) ?_
    refine lv_iload_n hx hb dAR_fill_12 rfl (lv_at hl 2 rfl) ?_
    refine va_iast hx hb hK hP hD hS 0 0 rfl rfl (vp_in_nI (by omega) (by omega)) dAR_fill_13 (fun H locs hP hD hS => ?_)
    have hP : va_P (dC, dI) vwCl ([zar qa ka 12 (upd fo (nI i).toNatClampNeg (nI 0))] ++ T) H := hP
    have hD : va_D A ([zar qa ka 12 (upd fo (nI i).toNatClampNeg (nI 0))] ++ T) := hD
    refine lv_iinc (k := 0) (v := nI (i + 1)) hx hb dAR_fill_14 hl rfl (by rw [show Int32.ofInt 1 = nI 1 from by decide]; exact nI_add _ _) (Nat.le_of_ble_eq_true rfl) rfl (fun ls hl => ?_)
    have hl : lv_has ls 4 [(2, .int (nI (i + 1))), (3, .int (nI 12)), (1, .int (nI 0)), (0, .ref qa)] := hl
    refine lv_goto (tgt := 5) hx hb dAR_fill_17 rfl ?_
    exact ih (upd fo (nI i).toNatClampNeg (nI 0)) ls H locs ⟨lv_sub hl [0, 1, 2, 3] rfl, z_fill (by omega) hxI, hP, hD, hS⟩

set_option maxHeartbeats 4000000 in
set_option maxRecDepth 100000 in
theorem x_LI_reset (l : Launch) (dC : Nat → ClassId) (dI : Nat → Nat → Nat) (T : va_W) (a : Nat) (qa : Nat) (ka : ClassId) (f : Nat → Int32) : zw_Mv (S := Unit) l yLI_reset wLI_reset ({ frames := 1, cells := 0, slots := 0, locals := 23 }) [.ref a] (dC, dI) vwCl ([zob a 4 [.ref qa], zar qa ka 12 f] ++ T) [(ka, .int)] (fun _ _ => True) (fun (_ : Unit) => True) (fun (_ : Unit) => ([zob a 4 [.ref qa], zar qa ka 12 (fun j => nI (zO j))] ++ T)) (fun (_ : Unit) => []) 0 0 := by
  refine zw_headv (cc := cLI_reset) (maxL := 1) (ret := none) (by decide +kernel) rfl (Nat.le_of_ble_eq_true rfl) ?_
  intro p e s m below meth c ls A F hnm hA hP hK hD hS hX hl
  obtain ⟨hx, hb, hml, hr, hlocks, hown, hts⟩ := F
  have hown : s.vm.findClass "SpannedCells$Lines" = some m.cls := hown
  have hz : ∀ w9 ∈ zT, w9.before [.ref a].toArray s = true := fun w9 h => hts w9 (List.mem_cons_of_mem _ h)
  have hl : lv_has ls 1 [(0, .ref a)] := hl
  refine z_q (fun Q hQ => ?_)
  refine lv_aload_n hx hb dLI_reset_0 rfl (lv_at hl 0 rfl) ?_
  refine va_get (D := (dC, dI)) (ci := 4) (v := .ref qa) (C := RLI) (T := TLI) (N := 1) hx hb hz in_LI hown hK hP 0 rfl rfl 0 (by decide) (hz _ wd_116) (fun _ h9 => h9) rfl dLI_reset_1 ?_
  refine lv_iconst (v := nI 0) hx hb dLI_reset_4 (by decide) ?_
  refine zw_callTv (wr := [zob a 4 [.ref qa]]) hK hP hD hS hA [1] [0] rfl rfl (by decide) (by decide) (va_runS (As := [.ref qa, .int (nI 0)]) (rest := []) ⟨hx, hb, hml, hown, hz⟩ ((x_AR_fill l dC dI T qa ka f ) s.heap.size) (va_cwS 2 hz (z_gS wd_461 wd_462 wd_43 wd_463) rfl rfl rfl (by decide +kernel) ⟨Nat.le_of_ble_eq_true rfl, Nat.le_of_ble_eq_true rfl⟩) (zw_preST hK hP hD [1] (by decide) rfl [0] rfl z_true (fun _ _ _ => trivial)) rfl rfl hl.1 rfl (lv_room (Nat.le_of_ble_eq_true rfl)) dLI_reset_5 ⟨Nat.le_of_ble_eq_true rfl, Nat.le_of_ble_eq_true rfl⟩) (fun u H locs h_r1 hP hD hK hS => ?_)
  have hP : va_P (dC, dI) vwCl ([zob a 4 [.ref qa], zar qa ka 12 (fun j => nI (zO j))] ++ T) H := zt_sub hP [0, 1] rfl
  have hD : va_D A ([zob a 4 [.ref qa], zar qa ka 12 (fun j => nI (zO j))] ++ T) := zt_subD hD [0, 1] (by decide) rfl
  have hK : va_K (dC, dI) vwCl [(ka, .int)] s := hK
  subst hQ
  exact zw_vret (D := (dC, dI)) (cl := vwCl) (A := A) () hx hb hr hlocks (trivial) (zt_sub hP [0, 1] rfl) (hK.sub [] rfl) (zt_subD hD [0, 1] (by decide) rfl) hS dLI_reset_8
