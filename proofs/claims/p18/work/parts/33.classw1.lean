set_option maxHeartbeats 4000000 in
set_option maxRecDepth 100000 in
theorem f_GR_beginGroup (l : Launch) (dC : Nat → ClassId) (dI : Nat → Nat → Nat) (g : Nat) (al : Nat) (gr : Nat) (gs : Nat) (bg : Nat) (re : Nat) (ce : Nat) (T : va_W) (hg : gr ≤ 1000) : zw_Mi (S := (Nat) × (Nat) × (Nat)) l yGR_beginGroup wGR_beginGroup ({ frames := 0, cells := 0, slots := 0, locals := 0 }) [.ref g] (dC, dI) vwCl ([zob g 1 [.ref al, .int (nI gr), .int (nI gs), .int (nI bg), .int (nI re), .int (nI ce)]] ++ T) [] (fun _ _ => True) (fun r u => match u with | (gr2, gs2, bg2) => (gr = 8 ∧ r = -1 ∧ gr2 = gr ∧ gs2 = gs ∧ bg2 = bg) ∨ (¬ gr = 8 ∧ r = nI (gr + 1) ∧ gr2 = gr + 1 ∧ gs2 = re ∧ bg2 = 0)) (fun u => match u with | (gr2, gs2, bg2) => ([zob g 1 [.ref al, .int (nI gr2), .int (nI gs2), .int (nI bg2), .int (nI re), .int (nI ce)]] ++ T)) (fun u => match u with | (gr2, gs2, bg2) => []) 0 0 := by
  refine zw_headi (cc := cGR_beginGroup) (maxL := 1) (ret := (some .int)) (by decide +kernel) rfl (Nat.le_of_ble_eq_true rfl) ?_
  intro p e s m below meth c ls A F hA hP hK hD hS hX hl
  obtain ⟨hx, hb, hml, hr, hlocks, hown, hts⟩ := F
  have hown : s.vm.findClass "SpannedCells$Grid" = some m.cls := hown
  have hz : ∀ w9 ∈ zT, w9.before [.ref g].toArray s = true := fun w9 h => hts w9 (List.mem_cons_of_mem _ h)
  have hl : lv_has ls 1 [(0, .ref g)] := hl
  refine z_q (fun Q hQ => ?_)
  refine lv_aload_n hx hb dGR_beginGroup_0 rfl (lv_at hl 0 rfl) ?_
  refine va_get (D := (dC, dI)) (ci := 1) (v := .int (nI gr)) (C := RGR) (T := TGR) (N := 6) hx hb hz in_GR hown hK hP 0 rfl rfl 1 (by decide) (hz _ wd_86) (fun _ h9 => h9) rfl dGR_beginGroup_1 ?_
  refine lv_bipush (v := nI 8) hx hb dGR_beginGroup_4 (by decide) ?_
  have t1 := nI_toInt (n := gr) (by omega)
  have t2 := nI_toInt (n := 8) (by omega)
  refine lv_icmp_ne (tgt := 11) hx hb dGR_beginGroup_6 rfl (fun h1 => ?_) (fun h1 => ?_)
  · have h1 := z_ne h1
    refine lv_aload_n hx hb dGR_beginGroup_11 rfl (lv_at hl 0 rfl) ?_
    refine lv_dup hx hb dGR_beginGroup_12 rfl ?_
    refine va_get (D := (dC, dI)) (ci := 1) (v := .int (nI gr)) (C := RGR) (T := TGR) (N := 6) hx hb hz in_GR hown hK hP 0 rfl rfl 1 (by decide) (hz _ wd_86) (fun _ h9 => h9) rfl dGR_beginGroup_13 ?_
    refine lv_iconst (v := nI 1) hx hb dGR_beginGroup_16 (by decide) ?_
    refine lv_iadd hx hb dGR_beginGroup_17 ?_
    refine lv_topi (fun x4 e5 => ?_)
    have e5 : x4 = nI (gr + 1) := e5.trans (nI_add _ _)
    subst e5
    refine va_put (D := (dC, dI)) (ci := 1) (v := .int (nI (gr + 1))) (ty := .int) (C := RGR) (T := TGR) (N := 6) hx hb hz in_GR tyGR tokGR nokGR hown hK hP hD hS 0 rfl rfl 1 (by decide) (hz _ wd_86) (fun _ h9 => h9) rfl (by decide +kernel) rfl rfl (Nat.le_of_ble_eq_true rfl) dGR_beginGroup_18 (fun H locs hP hD hS => ?_)
    have hP : va_P (dC, dI) vwCl ([zob g 1 [.ref al, .int (nI (gr + 1)), .int (nI gs), .int (nI bg), .int (nI re), .int (nI ce)]] ++ T) H := hP
    have hD : va_D A ([zob g 1 [.ref al, .int (nI (gr + 1)), .int (nI gs), .int (nI bg), .int (nI re), .int (nI ce)]] ++ T) := hD
    refine lv_aload_n hx hb dGR_beginGroup_21 rfl (lv_at hl 0 rfl) ?_
    refine lv_aload_n hx hb dGR_beginGroup_22 rfl (lv_at hl 0 rfl) ?_
    refine va_get (D := (dC, dI)) (ci := 1) (v := .int (nI re)) (C := RGR) (T := TGR) (N := 6) hx hb hz in_GR hown hK hP 0 rfl rfl 4 (by decide) (hz _ wd_89) (fun _ h9 => h9) rfl dGR_beginGroup_23 ?_
    refine va_put (D := (dC, dI)) (ci := 1) (v := .int (nI re)) (ty := .int) (C := RGR) (T := TGR) (N := 6) hx hb hz in_GR tyGR tokGR nokGR hown hK hP hD hS 0 rfl rfl 2 (by decide) (hz _ wd_87) (fun _ h9 => h9) rfl (by decide +kernel) rfl rfl (Nat.le_of_ble_eq_true rfl) dGR_beginGroup_26 (fun H locs hP hD hS => ?_)
    have hP : va_P (dC, dI) vwCl ([zob g 1 [.ref al, .int (nI (gr + 1)), .int (nI re), .int (nI bg), .int (nI re), .int (nI ce)]] ++ T) H := hP
    have hD : va_D A ([zob g 1 [.ref al, .int (nI (gr + 1)), .int (nI re), .int (nI bg), .int (nI re), .int (nI ce)]] ++ T) := hD
    refine lv_aload_n hx hb dGR_beginGroup_29 rfl (lv_at hl 0 rfl) ?_
    refine lv_iconst (v := nI 0) hx hb dGR_beginGroup_30 (by decide) ?_
    refine va_put (D := (dC, dI)) (ci := 1) (v := .int (nI 0)) (ty := .int) (C := RGR) (T := TGR) (N := 6) hx hb hz in_GR tyGR tokGR nokGR hown hK hP hD hS 0 rfl rfl 3 (by decide) (hz _ wd_88) (fun _ h9 => h9) rfl (by decide +kernel) rfl rfl (Nat.le_of_ble_eq_true rfl) dGR_beginGroup_31 (fun H locs hP hD hS => ?_)
    have hP : va_P (dC, dI) vwCl ([zob g 1 [.ref al, .int (nI (gr + 1)), .int (nI re), .int (nI 0), .int (nI re), .int (nI ce)]] ++ T) H := hP
    have hD : va_D A ([zob g 1 [.ref al, .int (nI (gr + 1)), .int (nI re), .int (nI 0), .int (nI re), .int (nI ce)]] ++ T) := hD
    refine lv_aload_n hx hb dGR_beginGroup_34 rfl (lv_at hl 0 rfl) ?_
    refine va_get (D := (dC, dI)) (ci := 1) (v := .int (nI (gr + 1))) (C := RGR) (T := TGR) (N := 6) hx hb hz in_GR hown hK hP 0 rfl rfl 1 (by decide) (hz _ wd_86) (fun _ h9 => h9) rfl dGR_beginGroup_35 ?_
    subst hQ
    exact zw_iret (D := (dC, dI)) (cl := vwCl) (A := A) (gr + 1, re, 0) hx hb hr hlocks (Or.inr ⟨by omega, rfl, rfl, rfl, rfl⟩) (zt_sub hP [0] rfl) (hK.sub [] rfl) (zt_subD hD [0] (by decide) rfl) hS dGR_beginGroup_38
  · have h1 := z_eq h1
    refine lv_iconst (v := (-1)) hx hb dGR_beginGroup_9 (by decide) ?_
    subst hQ
    exact zw_iret (D := (dC, dI)) (cl := vwCl) (A := A) (gr, gs, bg) hx hb hr hlocks (Or.inl ⟨by omega, rfl, rfl, rfl, rfl⟩) (zt_sub hP [0] rfl) (hK.sub [] rfl) (zt_subD hD [0] (by decide) rfl) hS dGR_beginGroup_10

set_option maxHeartbeats 4000000 in
set_option maxRecDepth 100000 in
theorem f_SC_group (l : Launch) (dC : Nat → ClassId) (dI : Nat → Nat → Nat) (h0 : Nat) (wd : Nat) (hh : Nat) (sp : Nat) (gp : Nat) (fx : Nat) (g : Nat) (al : Nat) (gr : Nat) (gs : Nat) (bg : Nat) (re : Nat) (ce : Nat) (T : va_W) (hg : gr ≤ 1000) : zw_Mi (S := (Nat) × (Nat) × (Nat)) l ySC_group wSC_group ({ frames := 1, cells := 0, slots := 0, locals := 20 }) [.ref h0] (dC, dI) vwCl ([zob h0 0 [.ref g, .ref wd, .ref hh, .int (nI sp), .int (nI gp), .int (nI fx)], zob g 1 [.ref al, .int (nI gr), .int (nI gs), .int (nI bg), .int (nI re), .int (nI ce)]] ++ T) [] (fun _ _ => True) (fun r u => match u with | (gr2, gs2, bg2) => (gr = 8 ∧ r = -1 ∧ gr2 = gr ∧ gs2 = gs ∧ bg2 = bg) ∨ (¬ gr = 8 ∧ r = nI (gr + 1) ∧ gr2 = gr + 1 ∧ gs2 = re ∧ bg2 = 0)) (fun u => match u with | (gr2, gs2, bg2) => ([zob h0 0 [.ref g, .ref wd, .ref hh, .int (nI sp), .int (nI gp), .int (nI fx)], zob g 1 [.ref al, .int (nI gr2), .int (nI gs2), .int (nI bg2), .int (nI re), .int (nI ce)]] ++ T)) (fun u => match u with | (gr2, gs2, bg2) => []) 0 0 := by
  refine zw_headi (cc := cSC_group) (maxL := 1) (ret := (some .int)) (by decide +kernel) rfl (Nat.le_of_ble_eq_true rfl) ?_
  intro p e s m below meth c ls A F hA hP hK hD hS hX hl
  obtain ⟨hx, hb, hml, hr, hlocks, hown, hts⟩ := F
  have hown : s.vm.findClass "SpannedCells" = some m.cls := hown
  have hz : ∀ w9 ∈ zT, w9.before [.ref h0].toArray s = true := fun w9 h => hts w9 (List.mem_cons_of_mem _ h)
  have hl : lv_has ls 1 [(0, .ref h0)] := hl
  refine z_q (fun Q hQ => ?_)
  refine lv_aload_n hx hb dSC_group_0 rfl (lv_at hl 0 rfl) ?_
  refine va_get (D := (dC, dI)) (ci := 0) (v := .ref g) (C := RSC) (T := TSC) (N := 6) hx hb hz in_SC hown hK hP 0 rfl rfl 0 (by decide) (hz _ wd_150) (fun _ h9 => h9) rfl dSC_group_1 ?_
  refine zw_callTi (wr := [zob h0 0 [.ref g, .ref wd, .ref hh, .int (nI sp), .int (nI gp), .int (nI fx)]]) hK hP hD hS hA [1] [0] rfl rfl (by decide) (by decide) (va_runV (As := []) (rest := []) ⟨hx, hb, hml, hown, hz⟩ ((f_GR_beginGroup l dC dI g al gr gs bg re ce T (by omega)) s.heap.size) (cwV 0 hz (z_gV wd_173 wd_174 wd_175 wd_30 wd_176) rfl rfl rfl (by decide +kernel) ⟨Nat.le_of_ble_eq_true rfl, Nat.le_of_ble_eq_true rfl⟩) (zw_preVT hK hP hD (va_recv (q0 := 1) hK hP (q := (RGR, TGR, 6)) rfl rfl) [1] (by decide) rfl [] rfl z_true (fun _ _ _ => trivial)) rfl rfl hl.1 rfl (lv_room (Nat.le_of_ble_eq_true rfl)) dSC_group_4 ⟨Nat.le_of_ble_eq_true rfl, Nat.le_of_ble_eq_true rfl⟩) (fun rg u H locs h_rg hP hD hK hS => ?_)
  obtain ⟨x1, x2, x3⟩ := u
  have hP : va_P (dC, dI) vwCl ([zob h0 0 [.ref g, .ref wd, .ref hh, .int (nI sp), .int (nI gp), .int (nI fx)], zob g 1 [.ref al, .int (nI x1), .int (nI x2), .int (nI x3), .int (nI re), .int (nI ce)]] ++ T) H := zt_sub hP [0, 1] rfl
  have hD : va_D A ([zob h0 0 [.ref g, .ref wd, .ref hh, .int (nI sp), .int (nI gp), .int (nI fx)], zob g 1 [.ref al, .int (nI x1), .int (nI x2), .int (nI x3), .int (nI re), .int (nI ce)]] ++ T) := zt_subD hD [0, 1] (by decide) rfl
  have hK : va_K (dC, dI) vwCl [] s := hK
  have h_rg : (gr = 8 ∧ rg = -1 ∧ x1 = gr ∧ x2 = gs ∧ x3 = bg) ∨ (¬ gr = 8 ∧ rg = nI (gr + 1) ∧ x1 = gr + 1 ∧ x2 = re ∧ x3 = 0) := h_rg
  subst hQ
  exact zw_iret (D := (dC, dI)) (cl := vwCl) (A := A) (x1, x2, x3) hx hb hr hlocks (h_rg) (zt_sub hP [0, 1] rfl) (hK.sub [] rfl) (zt_subD hD [0, 1] (by decide) rfl) hS dSC_group_7

set_option maxHeartbeats 4000000 in
set_option maxRecDepth 100000 in
theorem f_SC_layout (l : Launch) (dC : Nat → ClassId) (dI : Nat → Nat → Nat) (T : va_W) (h0 : Nat) (g : Nat) (wd : Nat) (hh : Nat) (sp : Nat) (gp : Nat) (fx : Nat) (a : Int32) (b : Int32) (f1 : Nat) (hf : f1 ≤ 1) : zw_Mi (S := (Nat) × (Nat) × (Nat)) l ySC_layout wSC_layout ({ frames := 1, cells := 0, slots := 0, locals := 22 }) [.ref h0, .int a, .int b, .int (nI f1)] (dC, dI) vwCl ([zob h0 0 [.ref g, .ref wd, .ref hh, .int (nI sp), .int (nI gp), .int (nI fx)]] ++ T) [] (fun _ _ => True) (fun r u => match u with | (sp2, gp2, fx2) => (¬ ((0 ≤ a.toInt ∧ a.toInt ≤ 10000) ∧ (0 ≤ b.toInt ∧ b.toInt ≤ 20)) ∧ r = 0 ∧ sp2 = sp ∧ gp2 = gp ∧ fx2 = fx) ∨ (sp2 ≤ 10000 ∧ gp2 ≤ 20 ∧ a = nI sp2 ∧ b = nI gp2 ∧ nI f1 = nI fx2 ∧ r = 1)) (fun u => match u with | (sp2, gp2, fx2) => ([zob h0 0 [.ref g, .ref wd, .ref hh, .int (nI sp2), .int (nI gp2), .int (nI fx2)]] ++ T)) (fun u => match u with | (sp2, gp2, fx2) => []) 0 0 := by
  refine zw_headi (cc := cSC_layout) (maxL := 4) (ret := (some .boolean)) (by decide +kernel) rfl (Nat.le_of_ble_eq_true rfl) ?_
  intro p e s m below meth c ls A F hA hP hK hD hS hX hl
  obtain ⟨hx, hb, hml, hr, hlocks, hown, hts⟩ := F
  have hown : s.vm.findClass "SpannedCells" = some m.cls := hown
  have hz : ∀ w9 ∈ zT, w9.before [.ref h0, .int a, .int b, .int (nI f1)].toArray s = true := fun w9 h => hts w9 (List.mem_cons_of_mem _ h)
  have hl : lv_has ls 4 [(0, .ref h0), (1, .int a), (2, .int b), (3, .int (nI f1))] := hl
  refine z_q (fun Q hQ => ?_)
  refine lv_iload_n hx hb dSC_layout_0 rfl (lv_at hl 1 rfl) ?_
  refine lv_iconst (v := nI 0) hx hb dSC_layout_1 (by decide) ?_
  refine lv_sipush (v := nI 10000) hx hb dSC_layout_2 (by decide) ?_
  refine vp_callSi (W.runS (As := [.int a, .int (nI 0), .int (nI 10000)]) (rest := []) ⟨hx, hb, hml, hown, hz⟩ (f_SC_within l dC dI a (nI 0) (nI 10000) ) (va_cwS 3 hz (z_gS wd_219 wd_220 wd_29 wd_221) rfl rfl rfl (by decide +kernel) ⟨Nat.le_of_ble_eq_true rfl, Nat.le_of_ble_eq_true rfl⟩) (zr_preS hK (hP.sub [] rfl) [] rfl z_true (fun _ _ _ => trivial)) rfl rfl hl.1 rfl (lv_room (Nat.le_of_ble_eq_true rfl)) dSC_layout_5 ⟨Nat.le_of_ble_eq_true rfl, Nat.le_of_ble_eq_true rfl⟩) (fun ra h_ra => ?_)
  have h_ra : z_yn ra ((nI 0).toInt ≤ a.toInt ∧ a.toInt ≤ (nI 10000).toInt) := h_ra
  have t_0 := nI_toInt (n := 0) (by omega)
  have t_1 := nI_toInt (n := 10000) (by omega)
  refine lv_if_eq (tgt := 21) hx hb dSC_layout_8 rfl (fun h_b => ?_) (fun h_b => ?_)
  · have h_b := z_yF h_ra h_b
    refine lv_iconst (v := nI 0) hx hb dSC_layout_21 (by decide) ?_
    subst hQ
    exact zw_zret (D := (dC, dI)) (cl := vwCl) (A := A) (sp, gp, fx) hx hb hr hlocks (Or.inl rfl) (Or.inl ⟨by omega, rfl, rfl, rfl, rfl⟩) (zt_sub hP [0] rfl) (hK.sub [] rfl) (zt_subD hD [0] (by decide) rfl) hS dSC_layout_22
  · have h_b := z_yT h_ra h_b
    have h_a := h_b
    refine lv_iload_n hx hb dSC_layout_11 rfl (lv_at hl 2 rfl) ?_
    refine lv_iconst (v := nI 0) hx hb dSC_layout_12 (by decide) ?_
    refine lv_bipush (v := nI 20) hx hb dSC_layout_13 (by decide) ?_
    refine vp_callSi (W.runS (As := [.int b, .int (nI 0), .int (nI 20)]) (rest := []) ⟨hx, hb, hml, hown, hz⟩ (f_SC_within l dC dI b (nI 0) (nI 20) ) (va_cwS 3 hz (z_gS wd_219 wd_220 wd_29 wd_221) rfl rfl rfl (by decide +kernel) ⟨Nat.le_of_ble_eq_true rfl, Nat.le_of_ble_eq_true rfl⟩) (zr_preS hK (hP.sub [] rfl) [] rfl z_true (fun _ _ _ => trivial)) rfl rfl hl.1 rfl (lv_room (Nat.le_of_ble_eq_true rfl)) dSC_layout_15 ⟨Nat.le_of_ble_eq_true rfl, Nat.le_of_ble_eq_true rfl⟩) (fun rb h_rb => ?_)
    have h_rb : z_yn rb ((nI 0).toInt ≤ b.toInt ∧ b.toInt ≤ (nI 20).toInt) := h_rb
    have t_2 := nI_toInt (n := 20) (by omega)
    refine lv_if_ne (tgt := 23) hx hb dSC_layout_18 rfl (fun h_b => ?_) (fun h_b => ?_)
    · have h_b := z_yT h_rb h_b
      obtain ⟨a1, ha1, rfl⟩ := z_ofIn (c := a) (n := 10001) (by omega) (by omega) (by omega)
      obtain ⟨b_v, hb9, rfl⟩ := z_ofIn (c := b) (n := 21) (by omega) (by omega) (by omega)
      refine lv_aload_n hx hb dSC_layout_23 rfl (lv_at hl 0 rfl) ?_
      refine lv_iload_n hx hb dSC_layout_24 rfl (lv_at hl 1 rfl) ?_
      refine va_put (D := (dC, dI)) (ci := 0) (v := .int (nI a1)) (ty := .int) (C := RSC) (T := TSC) (N := 6) hx hb hz in_SC tySC tokSC nokSC hown hK hP hD hS 0 rfl rfl 3 (by decide) (hz _ wd_153) (fun _ h9 => h9) rfl (by decide +kernel) rfl rfl (Nat.le_of_ble_eq_true rfl) dSC_layout_25 (fun H locs hP hD hS => ?_)
      have hP : va_P (dC, dI) vwCl ([zob h0 0 [.ref g, .ref wd, .ref hh, .int (nI a1), .int (nI gp), .int (nI fx)]] ++ T) H := hP
      have hD : va_D A ([zob h0 0 [.ref g, .ref wd, .ref hh, .int (nI a1), .int (nI gp), .int (nI fx)]] ++ T) := hD
      refine lv_aload_n hx hb dSC_layout_28 rfl (lv_at hl 0 rfl) ?_
      refine lv_iload_n hx hb dSC_layout_29 rfl (lv_at hl 2 rfl) ?_
      refine va_put (D := (dC, dI)) (ci := 0) (v := .int (nI b_v)) (ty := .int) (C := RSC) (T := TSC) (N := 6) hx hb hz in_SC tySC tokSC nokSC hown hK hP hD hS 0 rfl rfl 4 (by decide) (hz _ wd_154) (fun _ h9 => h9) rfl (by decide +kernel) rfl rfl (Nat.le_of_ble_eq_true rfl) dSC_layout_30 (fun H locs hP hD hS => ?_)
      have hP : va_P (dC, dI) vwCl ([zob h0 0 [.ref g, .ref wd, .ref hh, .int (nI a1), .int (nI b_v), .int (nI fx)]] ++ T) H := hP
      have hD : va_D A ([zob h0 0 [.ref g, .ref wd, .ref hh, .int (nI a1), .int (nI b_v), .int (nI fx)]] ++ T) := hD
      refine lv_aload_n hx hb dSC_layout_33 rfl (lv_at hl 0 rfl) ?_
      refine lv_iload_n hx hb dSC_layout_34 rfl (lv_at hl 3 rfl) ?_
      refine va_put (D := (dC, dI)) (ci := 0) (v := .int (nI f1)) (ty := .boolean) (C := RSC) (T := TSC) (N := 6) hx hb hz in_SC tySC tokSC nokSC hown hK hP hD hS 0 rfl rfl 5 (by decide) (hz _ wd_155) (fun _ h9 => h9) rfl (by decide +kernel) (by rcases z_f01 hf with h | h <;> (rw [h]; rfl)) (by rcases z_f01 hf with h | h <;> (rw [h]; rfl)) (Nat.le_of_ble_eq_true rfl) dSC_layout_35 (fun H locs hP hD hS => ?_)
      have hP : va_P (dC, dI) vwCl ([zob h0 0 [.ref g, .ref wd, .ref hh, .int (nI a1), .int (nI b_v), .int (nI f1)]] ++ T) H := hP
      have hD : va_D A ([zob h0 0 [.ref g, .ref wd, .ref hh, .int (nI a1), .int (nI b_v), .int (nI f1)]] ++ T) := hD
      refine lv_iconst (v := nI 1) hx hb dSC_layout_38 (by decide) ?_
      subst hQ
      exact zw_zret (D := (dC, dI)) (cl := vwCl) (A := A) (a1, b_v, f1) hx hb hr hlocks (Or.inr rfl) (Or.inr ⟨by omega, by omega, rfl, rfl, rfl, rfl⟩) (zt_sub hP [0] rfl) (hK.sub [] rfl) (zt_subD hD [0] (by decide) rfl) hS dSC_layout_39
    · have h_b := z_yF h_rb h_b
      refine lv_iconst (v := nI 0) hx hb dSC_layout_21 (by decide) ?_
      subst hQ
      exact zw_zret (D := (dC, dI)) (cl := vwCl) (A := A) (sp, gp, fx) hx hb hr hlocks (Or.inl rfl) (Or.inl ⟨by omega, rfl, rfl, rfl, rfl⟩) (zt_sub hP [0] rfl) (hK.sub [] rfl) (zt_subD hD [0] (by decide) rfl) hS dSC_layout_22

set_option maxHeartbeats 4000000 in
set_option maxRecDepth 100000 in
theorem f_CE_growTo (l : Launch) (dC : Nat → ClassId) (dI : Nat → Nat → Nat) (a : Nat) (f0 : Nat) (f1 : Nat) (f2 : Nat) (f3 : Nat) (f4 : Nat) (f5 : Nat) (f6 : Nat) (f7 : Nat) (f8 : Nat) (f9 : Nat) (e1 : Nat) (hh : f1 ≤ e1 ∧ e1 ≤ 1000 ∧ f6 ≤ 1000) : zw_Mv (S := (Nat)) l yCE_growTo wCE_growTo ({ frames := 0, cells := 0, slots := 0, locals := 0 }) [.ref a, .int (nI e1)] (dC, dI) vwCl [zob a 7 [.int (nI f0), .int (nI f1), .int (nI f2), .int (nI f3), .int (nI f4), .int (nI f5), .int (nI f6), .int (nI f7), .int (nI f8), .int (nI f9)]] [] (fun _ _ => True) (fun (f72 : Nat) => f72 = if f6 = 0 then f7 else e1 - f1) (fun (f72 : Nat) => [zob a 7 [.int (nI f0), .int (nI f1), .int (nI f2), .int (nI f3), .int (nI f4), .int (nI f5), .int (nI f6), .int (nI f72), .int (nI f8), .int (nI f9)]]) (fun (f72 : Nat) => []) 0 0 := by
  refine zw_headv (cc := cCE_growTo) (maxL := 2) (ret := none) (by decide +kernel) rfl (Nat.le_of_ble_eq_true rfl) ?_
  intro p e s m below meth c ls A F hnm hA hP hK hD hS hX hl
  obtain ⟨hx, hb, hml, hr, hlocks, hown, hts⟩ := F
  have hown : s.vm.findClass "SpannedCells$Cell" = some m.cls := hown
  have hz : ∀ w9 ∈ zT, w9.before [.ref a, .int (nI e1)].toArray s = true := fun w9 h => hts w9 (List.mem_cons_of_mem _ h)
  have hl : lv_has ls 2 [(0, .ref a), (1, .int (nI e1))] := hl
  refine z_q (fun Q hQ => ?_)
  refine lv_aload_n hx hb dCE_growTo_0 rfl (lv_at hl 0 rfl) ?_
  refine va_get (D := (dC, dI)) (ci := 7) (v := .int (nI f6)) (C := RCE) (T := TCE) (N := 10) hx hb hz in_CE hown hK hP 0 rfl rfl 6 (by decide) (hz _ wd_270) (fun _ h9 => h9) rfl dCE_growTo_1 ?_
  have t1 := nI_toInt (n := f6) (by omega)
  have t2 : (0 : Int32).toInt = 0 := by decide
  refine lv_if_eq (tgt := 17) hx hb dCE_growTo_4 rfl (fun h1 => ?_) (fun h1 => ?_)
  · have h1 := z_eq h1
    subst hQ
    exact zw_vret (D := (dC, dI)) (cl := vwCl) (A := A) f7 hx hb hr hlocks ((if_pos (by omega)).symm) (hP.sub [0] rfl) (hK.sub [] rfl) (hD.sub [0] (by decide) rfl) hS dCE_growTo_17
  · have h1 := z_ne h1
    refine lv_aload_n hx hb dCE_growTo_7 rfl (lv_at hl 0 rfl) ?_
    refine lv_iload_n hx hb dCE_growTo_8 rfl (lv_at hl 1 rfl) ?_
    refine lv_aload_n hx hb dCE_growTo_9 rfl (lv_at hl 0 rfl) ?_
    refine va_get (D := (dC, dI)) (ci := 7) (v := .int (nI f1)) (C := RCE) (T := TCE) (N := 10) hx hb hz in_CE hown hK hP 0 rfl rfl 1 (by decide) (hz _ wd_255) (fun _ h9 => h9) rfl dCE_growTo_10 ?_
    refine lv_isub hx hb dCE_growTo_13 ?_
    refine lv_topi (fun x4 e5 => ?_)
    have e5 : x4 = nI (e1 - f1) := e5.trans (pk_sub (by omega))
    subst e5
    refine va_put (D := (dC, dI)) (ci := 7) (v := .int (nI (e1 - f1))) (ty := .int) (C := RCE) (T := TCE) (N := 10) hx hb hz in_CE tyCE tokCE nokCE hown hK hP hD hS 0 rfl rfl 7 (by decide) (hz _ wd_271) (fun _ h9 => h9) rfl (by decide +kernel) rfl rfl (Nat.le_of_ble_eq_true rfl) dCE_growTo_14 (fun H locs hP hD hS => ?_)
    have hP : va_P (dC, dI) vwCl [zob a 7 [.int (nI f0), .int (nI f1), .int (nI f2), .int (nI f3), .int (nI f4), .int (nI f5), .int (nI f6), .int (nI (e1 - f1)), .int (nI f8), .int (nI f9)]] H := hP
    have hD : va_D A [zob a 7 [.int (nI f0), .int (nI f1), .int (nI f2), .int (nI f3), .int (nI f4), .int (nI f5), .int (nI f6), .int (nI (e1 - f1)), .int (nI f8), .int (nI f9)]] := hD
    subst hQ
    exact zw_vret (D := (dC, dI)) (cl := vwCl) (A := A) (e1 - f1) hx hb hr hlocks ((if_neg (by omega)).symm) (hP.sub [0] rfl) (hK.sub [] rfl) (hD.sub [0] (by decide) rfl) hS dCE_growTo_17

set_option maxHeartbeats 4000000 in
set_option maxRecDepth 100000 in
theorem f_CE_frame (l : Launch) (dC : Nat → ClassId) (dI : Nat → Nat → Nat) (a : Nat) (f0 : Nat) (f1 : Nat) (f2 : Nat) (f3 : Nat) (f4 : Nat) (f5 : Nat) (f6 : Nat) (f7 : Nat) (f8 : Nat) (f9 : Nat) (t : Nat) (w : Nat) : zw_Mv (S := Unit) l yCE_frame wCE_frame ({ frames := 0, cells := 0, slots := 0, locals := 0 }) [.ref a, .int (nI t), .int (nI w)] (dC, dI) vwCl [zob a 7 [.int (nI f0), .int (nI f1), .int (nI f2), .int (nI f3), .int (nI f4), .int (nI f5), .int (nI f6), .int (nI f7), .int (nI f8), .int (nI f9)]] [] (fun _ _ => True) (fun (_ : Unit) => True) (fun (_ : Unit) => [zob a 7 [.int (nI f0), .int (nI f1), .int (nI f2), .int (nI f3), .int (nI f4), .int (nI f5), .int (nI f6), .int (nI f7), .int (nI t), .int (nI w)]]) (fun (_ : Unit) => []) 0 0 := by
  refine zw_headv (cc := cCE_frame) (maxL := 3) (ret := none) (by decide +kernel) rfl (Nat.le_of_ble_eq_true rfl) ?_
  intro p e s m below meth c ls A F hnm hA hP hK hD hS hX hl
  obtain ⟨hx, hb, hml, hr, hlocks, hown, hts⟩ := F
  have hown : s.vm.findClass "SpannedCells$Cell" = some m.cls := hown
  have hz : ∀ w9 ∈ zT, w9.before [.ref a, .int (nI t), .int (nI w)].toArray s = true := fun w9 h => hts w9 (List.mem_cons_of_mem _ h)
  have hl : lv_has ls 3 [(0, .ref a), (1, .int (nI t)), (2, .int (nI w))] := hl
  refine z_q (fun Q hQ => ?_)
  refine lv_aload_n hx hb dCE_frame_0 rfl (lv_at hl 0 rfl) ?_
  refine lv_iload_n hx hb dCE_frame_1 rfl (lv_at hl 1 rfl) ?_
  refine va_put (D := (dC, dI)) (ci := 7) (v := .int (nI t)) (ty := .int) (C := RCE) (T := TCE) (N := 10) hx hb hz in_CE tyCE tokCE nokCE hown hK hP hD hS 0 rfl rfl 8 (by decide) (hz _ wd_275) (fun _ h9 => h9) rfl (by decide +kernel) rfl rfl (Nat.le_of_ble_eq_true rfl) dCE_frame_2 (fun H locs hP hD hS => ?_)
  have hP : va_P (dC, dI) vwCl [zob a 7 [.int (nI f0), .int (nI f1), .int (nI f2), .int (nI f3), .int (nI f4), .int (nI f5), .int (nI f6), .int (nI f7), .int (nI t), .int (nI f9)]] H := hP
  have hD : va_D A [zob a 7 [.int (nI f0), .int (nI f1), .int (nI f2), .int (nI f3), .int (nI f4), .int (nI f5), .int (nI f6), .int (nI f7), .int (nI t), .int (nI f9)]] := hD
  refine lv_aload_n hx hb dCE_frame_5 rfl (lv_at hl 0 rfl) ?_
  refine lv_iload_n hx hb dCE_frame_6 rfl (lv_at hl 2 rfl) ?_
  refine va_put (D := (dC, dI)) (ci := 7) (v := .int (nI w)) (ty := .int) (C := RCE) (T := TCE) (N := 10) hx hb hz in_CE tyCE tokCE nokCE hown hK hP hD hS 0 rfl rfl 9 (by decide) (hz _ wd_276) (fun _ h9 => h9) rfl (by decide +kernel) rfl rfl (Nat.le_of_ble_eq_true rfl) dCE_frame_7 (fun H locs hP hD hS => ?_)
  have hP : va_P (dC, dI) vwCl [zob a 7 [.int (nI f0), .int (nI f1), .int (nI f2), .int (nI f3), .int (nI f4), .int (nI f5), .int (nI f6), .int (nI f7), .int (nI t), .int (nI w)]] H := hP
  have hD : va_D A [zob a 7 [.int (nI f0), .int (nI f1), .int (nI f2), .int (nI f3), .int (nI f4), .int (nI f5), .int (nI f6), .int (nI f7), .int (nI t), .int (nI w)]] := hD
  subst hQ
  exact zw_vret (D := (dC, dI)) (cl := vwCl) (A := A) () hx hb hr hlocks (trivial) (hP.sub [0] rfl) (hK.sub [] rfl) (hD.sub [0] (by decide) rfl) hS dCE_frame_10
