set_option maxHeartbeats 4000000 in
set_option maxRecDepth 100000 in
theorem f_GR_putCell (l : Launch) (dC : Nat → ClassId) (dI : Nat → Nat → Nat) (g : Nat) (gr : Nat) (gs : Nat) (bg : Nat) (re : Nat) (ce : Nat) (al : Nat) (ed : Nat) (cE : ClassId) (cap : Nat) (a : Nat → Option Nat) (mo : Int32) (n : Nat) (ad : Nat → Nat) (d : Nat → Nat → Nat) (a_v : Nat) (b_v : Nat) (c_v : Nat) (d_v : Nat) (e_v : Nat) (mi : Nat) (hn : n ≤ cap) (hc : cap < 2147483648) (ha : ∀ k, k < n → a k = some (ad k)) (hd : ∀ j k, k < n → d j k ≤ 1000) (hg : gr ≤ 1000 ∧ gs ≤ 1000 ∧ bg ≤ 1000 ∧ re ≤ 1000 ∧ ce ≤ 1000) (ht : ∀ k, k < n → d 1 k ≤ re) (hc2 : 2 ≤ cap ∧ cap ≤ 58) (hab : 1 ≤ a_v ∧ a_v ≤ 6 ∧ b_v ≤ 6 ∧ c_v ≤ 1000 ∧ d_v ≤ 1000 ∧ e_v ≤ 1000) (hgb : gs + bg ≤ 12) : zw_Mi (S := (Nat) × (Nat) × (Nat) × (Nat) × (ClassId) × (Nat) × (Nat → Option Nat) × (Int32) × (Nat → Nat) × (Nat → Nat → Nat)) l yGR_putCell wGR_putCell ({ frames := 7, cells := 2, slots := 68, locals := 149 }) [.ref g, .int (nI a_v), .int (nI b_v), .int (nI c_v), .int (nI d_v), .int (nI e_v)] (dC, dI) vwCl ([zob g 1 [.ref al, .int (nI gr), .int (nI gs), .int (nI bg), .int (nI re), .int (nI ce)], zob al 2 [.ref ed, .int (nI n), .int mo], zrf ed cE cap a] ++ zcs n ad (zcf d)) [(cE, .object "java/lang/Object")] (fun _ => zG0 mi) (fun r u => match u with | (n2, re2, ce2, ed2, cE2, cap2, a2, mo2, ad2, d2) => zPc n gs bg re ce ad d a_v b_v c_v d_v e_v r n2 re2 ce2 ad2 d2 ∧ n2 ≤ cap2 ∧ 2 ≤ cap2 ∧ cap2 ≤ 58 ∧ ∀ k, k < n2 → a2 k = some (ad2 k)) (fun u => match u with | (n2, re2, ce2, ed2, cE2, cap2, a2, mo2, ad2, d2) => ([zob g 1 [.ref al, .int (nI gr), .int (nI gs), .int (nI bg), .int (nI re2), .int (nI ce2)], zob al 2 [.ref ed2, .int (nI n2), .int mo2], zrf ed2 cE2 cap2 a2] ++ zcs n2 ad2 (zcf d2))) (fun u => match u with | (n2, re2, ce2, ed2, cE2, cap2, a2, mo2, ad2, d2) => [(cE2, .object "java/lang/Object")]) 2 68 := by
  refine zw_headi (cc := cGR_putCell) (maxL := 8) (ret := (some .int)) (by decide +kernel) rfl (Nat.le_of_ble_eq_true rfl) ?_
  intro p e s m below meth c ls A F hA hP hK hD hS hX hl
  obtain ⟨hx, hb, hml, hr, hlocks, hown, hts⟩ := F
  have hown : s.vm.findClass "SpannedCells$Grid" = some m.cls := hown
  have hz : ∀ w9 ∈ zT, w9.before [.ref g, .int (nI a_v), .int (nI b_v), .int (nI c_v), .int (nI d_v), .int (nI e_v)].toArray s = true := fun w9 h => hts w9 (List.mem_cons_of_mem _ h)
  have hl : lv_has ls 8 [(0, .ref g), (1, .int (nI a_v)), (2, .int (nI b_v)), (3, .int (nI c_v)), (4, .int (nI d_v)), (5, .int (nI e_v))] := hl
  have hN := hX.1
  refine z_q (fun Q hQ => ?_)
  refine lv_aload_n hx hb dGR_putCell_0 rfl (lv_at hl 0 rfl) ?_
  refine va_get (D := (dC, dI)) (ci := 1) (v := .int (nI bg)) (C := RGR) (T := TGR) (N := 6) hx hb hz in_GR hown hK hP 0 rfl rfl 3 (by decide) (hz _ wd_88) (fun _ h9 => h9) rfl dGR_putCell_1 ?_
  have t1 := nI_toInt (n := bg) (by omega)
  have t2 : (0 : Int32).toInt = 0 := by decide
  refine lv_if_eq (tgt := 19) hx hb dGR_putCell_4 rfl (fun h1 => ?_) (fun h1 => ?_)
  · have h1 := z_eq h1
    refine lv_iconst (v := (-1)) hx hb dGR_putCell_19 (by decide) ?_
    refine W.widen (k := 2) (n := 68) (Nat.le_of_ble_eq_true rfl) (Nat.le_of_ble_eq_true rfl) ?_
    subst hQ
    exact zw_iret (D := (dC, dI)) (cl := vwCl) (A := A) (n, re, ce, ed, cE, cap, a, mo, ad, d) hx hb hr hlocks (⟨Or.inl ⟨by omega, rfl, rfl, rfl, rfl, rfl, rfl⟩, by omega, by omega, by omega, ha⟩) (zt_sub hP [0, 1, 2] rfl) (hK.sub [0] rfl) (zt_subD hD [0, 1, 2] (by decide) rfl) hS dGR_putCell_20
  · have h1 := z_ne h1
    refine lv_aload_n hx hb dGR_putCell_7 rfl (lv_at hl 0 rfl) ?_
    refine va_get (D := (dC, dI)) (ci := 1) (v := .ref al) (C := RGR) (T := TGR) (N := 6) hx hb hz in_GR hown hK hP 0 rfl rfl 0 (by decide) (hz _ wd_85) (fun _ h9 => h9) rfl dGR_putCell_8 ?_
    refine vp_callSi (W.runV (As := []) (rest := []) ⟨hx, hb, hml, hown, hz⟩ (f_AL_size l dC dI al ed mo n ) (cwV 0 hz (z_gV wd_192 wd_193 wd_194 wd_33 wd_195) rfl rfl rfl (by decide +kernel) ⟨Nat.le_of_ble_eq_true rfl, Nat.le_of_ble_eq_true rfl⟩) (zr_preV hK (hP.sub [1] rfl) (va_recv (q0 := 1) hK hP (q := (RAL, TAL, 3)) rfl rfl) [] rfl z_true (fun _ _ _ => trivial)) rfl rfl hl.1 rfl (lv_room (Nat.le_of_ble_eq_true rfl)) dGR_putCell_11 ⟨Nat.le_of_ble_eq_true rfl, Nat.le_of_ble_eq_true rfl⟩) (fun r4 h_r4 => ?_)
    have h_r4 : r4 = nI n := h_r4
    subst h_r4
    refine lv_bipush (v := nI 40) hx hb dGR_putCell_14 (by decide) ?_
    have t5 := nI_toInt (n := n) (by omega)
    have t6 := nI_toInt (n := 40) (by omega)
    refine lv_icmp_lt (tgt := 21) hx hb dGR_putCell_16 rfl (fun h4 => ?_) (fun h4 => ?_)
    · have h4 := z_lt h4
      refine lv_aload_n hx hb dGR_putCell_21 rfl (lv_at hl 0 rfl) ?_
      refine va_get (D := (dC, dI)) (ci := 1) (v := .int (nI gs)) (C := RGR) (T := TGR) (N := 6) hx hb hz in_GR hown hK hP 0 rfl rfl 2 (by decide) (hz _ wd_87) (fun _ h9 => h9) rfl dGR_putCell_22 ?_
      refine lv_aload_n hx hb dGR_putCell_25 rfl (lv_at hl 0 rfl) ?_
      refine va_get (D := (dC, dI)) (ci := 1) (v := .int (nI bg)) (C := RGR) (T := TGR) (N := 6) hx hb hz in_GR hown hK hP 0 rfl rfl 3 (by decide) (hz _ wd_88) (fun _ h9 => h9) rfl dGR_putCell_26 ?_
      refine lv_iadd hx hb dGR_putCell_29 ?_
      refine lv_topi (fun x8 e9 => ?_)
      have e9 : x8 = nI (gs + bg) := e9.trans (nI_add _ _)
      subst e9
      refine lv_iconst (v := nI 1) hx hb dGR_putCell_30 (by decide) ?_
      refine lv_isub hx hb dGR_putCell_31 ?_
      refine lv_topi (fun x10 e11 => ?_)
      have e11 : x10 = nI ((gs + bg) - 1) := e11.trans (pk_sub (by omega))
      subst e11
      refine lv_istore hx hb dGR_putCell_32 hl (Nat.le_of_ble_eq_true rfl) rfl (fun ls hl => ?_)
      have hl : lv_has ls 8 [(6, .int (nI ((gs + bg) - 1))), (0, .ref g), (1, .int (nI a_v)), (2, .int (nI b_v)), (3, .int (nI c_v)), (4, .int (nI d_v)), (5, .int (nI e_v))] := hl
      refine lv_aload_n hx hb dGR_putCell_34 rfl (lv_at hl 1 rfl) ?_
      refine lv_iload hx hb dGR_putCell_35 (lv_at hl 0 rfl) ?_
      refine vp_callSi (W.runV (As := [.int (nI ((gs + bg) - 1))]) (rest := []) ⟨hx, hb, hml, hown, hz⟩ (f_GR_firstFreeColumn l dC dI g gr gs bg re ce al ed cE cap a mo n ad d ((gs + bg) - 1) (by omega) (by omega) (ha) (hd) (hg) (by omega)) (cwV 1 hz (z_gV wd_226 wd_228 wd_1 wd_30 wd_229) rfl rfl rfl (by decide +kernel) ⟨Nat.le_of_ble_eq_true rfl, Nat.le_of_ble_eq_true rfl⟩) (zr_preV hK (zt_sub hP [0, 1, 2] rfl) (va_recv (q0 := 0) hK hP (q := (RGR, TGR, 6)) rfl rfl) [0] rfl z_true (fun _ _ _ => trivial)) rfl rfl hl.1 rfl (lv_room (Nat.le_of_ble_eq_true rfl)) dGR_putCell_37 ⟨Nat.le_of_ble_eq_true rfl, Nat.le_of_ble_eq_true rfl⟩) (fun rx h_rx => ?_)
      have h_rx : ∃ x, rx = nI x ∧ x ≤ 12 ∧ (∀ j, j < x → zOwd n d j ((gs + bg) - 1)) ∧ (x < 12 → ¬ zOwd n d x ((gs + bg) - 1)) := h_rx
      obtain ⟨xf, hr9, hf1, hf2, hf3⟩ := h_rx
      subst hr9
      have hfr := zFree_of hf1 hf2 hf3
      refine lv_istore hx hb dGR_putCell_40 hl (Nat.le_of_ble_eq_true rfl) rfl (fun ls hl => ?_)
      have hl : lv_has ls 8 [(7, .int (nI xf)), (6, .int (nI ((gs + bg) - 1))), (0, .ref g), (1, .int (nI a_v)), (2, .int (nI b_v)), (3, .int (nI c_v)), (4, .int (nI d_v)), (5, .int (nI e_v))] := hl
      refine lv_iload hx hb dGR_putCell_42 (lv_at hl 0 rfl) ?_
      refine lv_iload_n hx hb dGR_putCell_44 rfl (lv_at hl 3 rfl) ?_
      refine lv_iadd hx hb dGR_putCell_45 ?_
      refine lv_topi (fun x12 e13 => ?_)
      have e13 : x12 = nI (xf + a_v) := e13.trans (nI_add _ _)
      subst e13
      refine lv_bipush (v := nI 12) hx hb dGR_putCell_46 (by decide) ?_
      have t14 := nI_toInt (n := xf + a_v) (by omega)
      have t15 := nI_toInt (n := 12) (by omega)
      refine lv_icmp_gt (tgt := 60) hx hb dGR_putCell_48 rfl (fun h2 => ?_) (fun h2 => ?_)
      · have h2 := z_lt h2
        refine lv_iconst (v := (-1)) hx hb dGR_putCell_60 (by decide) ?_
        refine W.widen (k := 2) (n := 68) (Nat.le_of_ble_eq_true rfl) (Nat.le_of_ble_eq_true rfl) ?_
        subst hQ
        exact zw_iret (D := (dC, dI)) (cl := vwCl) (A := A) (n, re, ce, ed, cE, cap, a, mo, ad, d) hx hb hr hlocks (⟨Or.inr ⟨by omega, xf, hfr, Or.inl ⟨by omega, rfl, rfl, rfl, rfl, rfl, rfl⟩⟩, by omega, by omega, by omega, ha⟩) (zt_sub hP [0, 1, 2] rfl) (hK.sub [0] rfl) (zt_subD hD [0, 1, 2] (by decide) rfl) hS dGR_putCell_61
      · have h2 := z_nlt h2
        refine lv_iload hx hb dGR_putCell_51 (lv_at hl 1 rfl) ?_
        refine lv_iload_n hx hb dGR_putCell_53 rfl (lv_at hl 4 rfl) ?_
        refine lv_iadd hx hb dGR_putCell_54 ?_
        refine lv_topi (fun x17 e18 => ?_)
        have e18 : x17 = nI (((gs + bg) - 1) + b_v) := e18.trans (nI_add _ _)
        subst e18
        refine lv_bipush (v := nI 12) hx hb dGR_putCell_55 (by decide) ?_
        have t19 := nI_toInt (n := ((gs + bg) - 1) + b_v) (by omega)
        have t20 := nI_toInt (n := 12) (by omega)
        refine lv_icmp_le (tgt := 62) hx hb dGR_putCell_57 rfl (fun h3 => ?_) (fun h3 => ?_)
        · have h3 := z_le h3
          refine lv_aload_n hx hb dGR_putCell_62 rfl (lv_at hl 2 rfl) ?_
          refine va_get (D := (dC, dI)) (ci := 1) (v := .ref al) (C := RGR) (T := TGR) (N := 6) hx hb hz in_GR hown hK hP 0 rfl rfl 0 (by decide) (hz _ wd_85) (fun _ h9 => h9) rfl dGR_putCell_63 ?_
          refine va_new (ci := 7) (fs := [.int (nI 0), .int (nI 0), .int (nI 0), .int (nI 0), .int (nI 0), .int (nI 0), .int (nI 0), .int (nI 0), .int (nI 0), .int (nI 0)]) (C := RCE) (T := TCE) (N := 10) hx hb hz in_CE tyCE tokCE hown (hz _ wd_210) (hz _ wd_246) (hz _ wd_41) hK hP hD hS hA rfl (by decide +kernel) (Nat.le_of_ble_eq_true rfl) (Nat.le_of_ble_eq_true rfl) dGR_putCell_66 (fun q22 H hP hD hS => ?_)
          have hP := zP_perm z_pm hP
          have hD := zD_perm z_pm hD
          have hP : va_P (dC, dI) vwCl ([zob g 1 [.ref al, .int (nI gr), .int (nI gs), .int (nI bg), .int (nI re), .int (nI ce)], zob al 2 [.ref ed, .int (nI n), .int mo], zrf ed cE cap a, zob q22 7 [.int (nI 0), .int (nI 0), .int (nI 0), .int (nI 0), .int (nI 0), .int (nI 0), .int (nI 0), .int (nI 0), .int (nI 0), .int (nI 0)]] ++ zcs n ad (zcf d)) H := hP
          have hD : va_D A ([zob g 1 [.ref al, .int (nI gr), .int (nI gs), .int (nI bg), .int (nI re), .int (nI ce)], zob al 2 [.ref ed, .int (nI n), .int mo], zrf ed cE cap a, zob q22 7 [.int (nI 0), .int (nI 0), .int (nI 0), .int (nI 0), .int (nI 0), .int (nI 0), .int (nI 0), .int (nI 0), .int (nI 0), .int (nI 0)]] ++ zcs n ad (zcf d)) := hD
          refine W.widen (k := 1) (n := 10) (Nat.le_of_ble_eq_true rfl) (Nat.le_of_ble_eq_true rfl) ?_
          refine lv_dup hx hb dGR_putCell_69 rfl ?_
          refine lv_iload hx hb dGR_putCell_70 (lv_at hl 0 rfl) ?_
          refine lv_iload hx hb dGR_putCell_72 (lv_at hl 1 rfl) ?_
          refine lv_iload_n hx hb dGR_putCell_74 rfl (lv_at hl 3 rfl) ?_
          refine lv_iload_n hx hb dGR_putCell_75 rfl (lv_at hl 4 rfl) ?_
          refine lv_iload_n hx hb dGR_putCell_76 rfl (lv_at hl 5 rfl) ?_
          refine lv_iload hx hb dGR_putCell_77 (lv_at hl 6 rfl) ?_
          refine lv_iload hx hb dGR_putCell_79 (lv_at hl 7 rfl) ?_
          refine zw_callTv (wr := [zob g 1 [.ref al, .int (nI gr), .int (nI gs), .int (nI bg), .int (nI re), .int (nI ce)], zob al 2 [.ref ed, .int (nI n), .int mo], zrf ed cE cap a]) hK hP hD hS hA [3] [0, 1, 2] rfl rfl (by decide) (by decide) (va_runI (As := [.int (nI xf), .int (nI ((gs + bg) - 1)), .int (nI a_v), .int (nI b_v), .int (nI c_v), .int (nI d_v), .int (nI e_v)]) (rest := [.ref q22, .ref al]) ⟨hx, hb, hml, hown, hz⟩ ((g_CE_init l dC dI (zcs n ad (zcf d)) q22 xf ((gs + bg) - 1) a_v b_v c_v d_v e_v (by omega)) H.size) (cwI 7 hz (z_gI wd_249) rfl rfl rfl (hz _ wd_41) (hz _ wd_247) (hz _ wd_248) rfl (by decide +kernel) ⟨Nat.le_of_ble_eq_true rfl, Nat.le_of_ble_eq_true rfl⟩) (zw_preST hK hP hD [3] (by decide) rfl [] rfl z_true (fun _ _ _ => trivial)) rfl rfl hl.1 rfl (lv_room (Nat.le_of_ble_eq_true rfl)) dGR_putCell_81 ⟨Nat.le_of_ble_eq_true rfl, Nat.le_of_ble_eq_true rfl⟩) (fun u H locs h_gw hP hD hK hS => ?_)
          obtain ⟨gw, rfl⟩ : ∃ z, z = u := ⟨_, rfl⟩
          have hP : va_P (dC, dI) vwCl ([zob g 1 [.ref al, .int (nI gr), .int (nI gs), .int (nI bg), .int (nI re), .int (nI ce)], zob al 2 [.ref ed, .int (nI n), .int mo], zrf ed cE cap a, zob q22 7 [.int (nI xf), .int (nI ((gs + bg) - 1)), .int (nI a_v), .int (nI c_v), .int (nI d_v), .int (nI e_v), .int (nI gw), .int (nI b_v), .int (nI 0), .int (nI 0)]] ++ zcs n ad (zcf d)) H := zt_sub hP [0, 1, 2, 3] rfl
          have hD : va_D A ([zob g 1 [.ref al, .int (nI gr), .int (nI gs), .int (nI bg), .int (nI re), .int (nI ce)], zob al 2 [.ref ed, .int (nI n), .int mo], zrf ed cE cap a, zob q22 7 [.int (nI xf), .int (nI ((gs + bg) - 1)), .int (nI a_v), .int (nI c_v), .int (nI d_v), .int (nI e_v), .int (nI gw), .int (nI b_v), .int (nI 0), .int (nI 0)]] ++ zcs n ad (zcf d)) := zt_subD hD [0, 1, 2, 3] (by decide) rfl
          have hK : va_K (dC, dI) vwCl [(cE, .object "java/lang/Object")] s := hK
          have h_gw : gw = if b_v = 0 then 1 else 0 := h_gw
          have hgw1 : gw ≤ 1 := by rw [h_gw]; split <;> omega
          refine zw_callTi (wr := [zob g 1 [.ref al, .int (nI gr), .int (nI gs), .int (nI bg), .int (nI re), .int (nI ce)]]) hK hP hD hS hA [1, 2, 3] [0] rfl rfl (by decide) (by decide) (va_runV (As := [.ref q22]) (rest := []) ⟨hx, hb, hml, hown, hz⟩ ((g_AL_add l dC dI al ed cE cap a mo n ad d q22 xf ((gs + bg) - 1) a_v c_v d_v e_v gw b_v 0 0 mi (ha) (by omega)) H.size) (cwV 1 hz (z_gV wd_298 wd_299 wd_300 wd_33 wd_301) rfl rfl rfl (by decide +kernel) ⟨Nat.le_of_ble_eq_true rfl, Nat.le_of_ble_eq_true rfl⟩) (zw_preVT hK hP hD (va_recv (q0 := 1) hK hP (q := (RAL, TAL, 3)) rfl rfl) [1, 2, 3] (by decide) rfl [0] rfl zG0_blind (zG0_call hX)) rfl rfl hl.1 rfl (lv_room (Nat.le_of_ble_eq_true rfl)) dGR_putCell_84 ⟨Nat.le_of_ble_eq_true rfl, Nat.le_of_ble_eq_true rfl⟩) (fun rad u H locs h_rad hP hD hK hS => ?_)
          obtain ⟨ed_2, c_2, p_2, a_2⟩ := u
          have hP : va_P (dC, dI) vwCl ([zob g 1 [.ref al, .int (nI gr), .int (nI gs), .int (nI bg), .int (nI re), .int (nI ce)], zob al 2 [.ref ed_2, .int (nI (n + 1)), .int (mo + nI 1)], zob q22 7 [.int (nI xf), .int (nI ((gs + bg) - 1)), .int (nI a_v), .int (nI c_v), .int (nI d_v), .int (nI e_v), .int (nI gw), .int (nI b_v), .int (nI 0), .int (nI 0)], zrf ed_2 c_2 p_2 a_2] ++ zcs n ad (zcf d)) H := zt_sub hP [0, 1, 3, 2] rfl
          have hD : va_D A ([zob g 1 [.ref al, .int (nI gr), .int (nI gs), .int (nI bg), .int (nI re), .int (nI ce)], zob al 2 [.ref ed_2, .int (nI (n + 1)), .int (mo + nI 1)], zob q22 7 [.int (nI xf), .int (nI ((gs + bg) - 1)), .int (nI a_v), .int (nI c_v), .int (nI d_v), .int (nI e_v), .int (nI gw), .int (nI b_v), .int (nI 0), .int (nI 0)], zrf ed_2 c_2 p_2 a_2] ++ zcs n ad (zcf d)) := zt_subD hD [0, 1, 3, 2] (by decide) rfl
          have hK : va_K (dC, dI) vwCl [(cE, .object "java/lang/Object"), (c_2, .object "java/lang/Object")] s := hK
          refine W.widen (k := 2) (n := 68) (Nat.le_of_ble_eq_true rfl) (Nat.le_of_ble_eq_true rfl) ?_
          have h_rad : rad = 1 ∧ n < p_2 ∧ 2 ≤ p_2 ∧ p_2 ≤ 58 ∧ ∀ k, k < n + 1 → a_2 k = some (va_up ad n q22 k) := h_rad
          refine lv_pop hx hb dGR_putCell_87 rfl ?_
          refine lv_aload_n hx hb dGR_putCell_88 rfl (lv_at hl 2 rfl) ?_
          refine lv_aload_n hx hb dGR_putCell_89 rfl (lv_at hl 2 rfl) ?_
          refine va_get (D := (dC, dI)) (ci := 1) (v := .int (nI ce)) (C := RGR) (T := TGR) (N := 6) hx hb hz in_GR hown hK hP 0 rfl rfl 5 (by decide) (hz _ wd_90) (fun _ h9 => h9) rfl dGR_putCell_90 ?_
          refine lv_iload hx hb dGR_putCell_93 (lv_at hl 0 rfl) ?_
          refine lv_iload_n hx hb dGR_putCell_95 rfl (lv_at hl 3 rfl) ?_
          refine lv_iadd hx hb dGR_putCell_96 ?_
          refine lv_topi (fun x23 e24 => ?_)
          have e24 : x23 = nI (xf + a_v) := e24.trans (nI_add _ _)
          subst e24
          refine va_mmax hx hb (hml.trans hl.1.symm) hown (hz _ wd_189) (hz _ wd_190) (hz _ wd_38) (hz _ wd_191) (Nat.le_of_ble_eq_true rfl) (Nat.le_of_ble_eq_true rfl) (Nat.le_of_ble_eq_true rfl) (Nat.le_of_ble_eq_true rfl) dGR_putCell_97 ?_
          refine lv_topi (fun x25 e26 => ?_)
          have e26 : x25 = nI (if ce < xf + a_v then xf + a_v else ce) := e26.trans (z_max (by omega) (by omega))
          subst e26
          refine va_put (D := (dC, dI)) (ci := 1) (v := .int (nI (if ce < xf + a_v then xf + a_v else ce))) (ty := .int) (C := RGR) (T := TGR) (N := 6) hx hb hz in_GR tyGR tokGR nokGR hown hK hP hD hS 0 rfl rfl 5 (by decide) (hz _ wd_90) (fun _ h9 => h9) rfl (by decide +kernel) rfl rfl (Nat.le_of_ble_eq_true rfl) dGR_putCell_100 (fun H locs hP hD hS => ?_)
          have hP : va_P (dC, dI) vwCl ([zob g 1 [.ref al, .int (nI gr), .int (nI gs), .int (nI bg), .int (nI re), .int (nI (if ce < xf + a_v then xf + a_v else ce))], zob al 2 [.ref ed_2, .int (nI (n + 1)), .int (mo + nI 1)], zob q22 7 [.int (nI xf), .int (nI ((gs + bg) - 1)), .int (nI a_v), .int (nI c_v), .int (nI d_v), .int (nI e_v), .int (nI gw), .int (nI b_v), .int (nI 0), .int (nI 0)], zrf ed_2 c_2 p_2 a_2] ++ zcs n ad (zcf d)) H := hP
          have hD : va_D A ([zob g 1 [.ref al, .int (nI gr), .int (nI gs), .int (nI bg), .int (nI re), .int (nI (if ce < xf + a_v then xf + a_v else ce))], zob al 2 [.ref ed_2, .int (nI (n + 1)), .int (mo + nI 1)], zob q22 7 [.int (nI xf), .int (nI ((gs + bg) - 1)), .int (nI a_v), .int (nI c_v), .int (nI d_v), .int (nI e_v), .int (nI gw), .int (nI b_v), .int (nI 0), .int (nI 0)], zrf ed_2 c_2 p_2 a_2] ++ zcs n ad (zcf d)) := hD
          have hP : va_P (dC, dI) vwCl ([zob g 1 [.ref al, .int (nI gr), .int (nI gs), .int (nI bg), .int (nI re), .int (nI (if ce < xf + a_v then xf + a_v else ce))], zob al 2 [.ref ed_2, .int (nI (n + 1)), .int (mo + nI 1)], zrf ed_2 c_2 p_2 a_2, zob q22 7 [.int (nI xf), .int (nI ((gs + bg) - 1)), .int (nI a_v), .int (nI c_v), .int (nI d_v), .int (nI e_v), .int (nI gw), .int (nI b_v), .int (nI 0), .int (nI 0)]] ++ zcs n ad (zcf d)) H := zt_sub hP [0, 1, 3, 2] rfl
          have hD : va_D A ([zob g 1 [.ref al, .int (nI gr), .int (nI gs), .int (nI bg), .int (nI re), .int (nI (if ce < xf + a_v then xf + a_v else ce))], zob al 2 [.ref ed_2, .int (nI (n + 1)), .int (mo + nI 1)], zrf ed_2 c_2 p_2 a_2, zob q22 7 [.int (nI xf), .int (nI ((gs + bg) - 1)), .int (nI a_v), .int (nI c_v), .int (nI d_v), .int (nI e_v), .int (nI gw), .int (nI b_v), .int (nI 0), .int (nI 0)]] ++ zcs n ad (zcf d)) := zt_subD hD [0, 1, 3, 2] (by decide) rfl
          have hP : va_P (dC, dI) vwCl ([zob g 1 [.ref al, .int (nI gr), .int (nI gs), .int (nI bg), .int (nI re), .int (nI (if ce < xf + a_v then xf + a_v else ce))], zob al 2 [.ref ed_2, .int (nI (n + 1)), .int (mo + nI 1)], zrf ed_2 c_2 p_2 a_2] ++ (zcs n ad (zcf d) ++ [zob q22 7 [.int (nI xf), .int (nI ((gs + bg) - 1)), .int (nI a_v), .int (nI c_v), .int (nI d_v), .int (nI e_v), .int (nI gw), .int (nI b_v), .int (nI 0), .int (nI 0)]])) H := zP_perm (z_pm2 (X := [zob g 1 [.ref al, .int (nI gr), .int (nI gs), .int (nI bg), .int (nI re), .int (nI (if ce < xf + a_v then xf + a_v else ce))], zob al 2 [.ref ed_2, .int (nI (n + 1)), .int (mo + nI 1)], zrf ed_2 c_2 p_2 a_2]) (q := zob q22 7 [.int (nI xf), .int (nI ((gs + bg) - 1)), .int (nI a_v), .int (nI c_v), .int (nI d_v), .int (nI e_v), .int (nI gw), .int (nI b_v), .int (nI 0), .int (nI 0)])) hP
          have hD : va_D A ([zob g 1 [.ref al, .int (nI gr), .int (nI gs), .int (nI bg), .int (nI re), .int (nI (if ce < xf + a_v then xf + a_v else ce))], zob al 2 [.ref ed_2, .int (nI (n + 1)), .int (mo + nI 1)], zrf ed_2 c_2 p_2 a_2] ++ (zcs n ad (zcf d) ++ [zob q22 7 [.int (nI xf), .int (nI ((gs + bg) - 1)), .int (nI a_v), .int (nI c_v), .int (nI d_v), .int (nI e_v), .int (nI gw), .int (nI b_v), .int (nI 0), .int (nI 0)]])) := zD_perm (z_pm2 (X := [zob g 1 [.ref al, .int (nI gr), .int (nI gs), .int (nI bg), .int (nI re), .int (nI (if ce < xf + a_v then xf + a_v else ce))], zob al 2 [.ref ed_2, .int (nI (n + 1)), .int (mo + nI 1)], zrf ed_2 c_2 p_2 a_2]) (q := zob q22 7 [.int (nI xf), .int (nI ((gs + bg) - 1)), .int (nI a_v), .int (nI c_v), .int (nI d_v), .int (nI e_v), .int (nI gw), .int (nI b_v), .int (nI 0), .int (nI 0)])) hD
          have e_z : zcs (n + 1) (va_up ad n q22) (zcf (zpu d n (zrec xf ((gs + bg) - 1) a_v c_v d_v e_v gw b_v 0 0))) = zcs n ad (zcf d) ++ [zob q22 7 [.int (nI xf), .int (nI ((gs + bg) - 1)), .int (nI a_v), .int (nI c_v), .int (nI d_v), .int (nI e_v), .int (nI gw), .int (nI b_v), .int (nI 0), .int (nI 0)]] := zcs_push
          have hP : va_P (dC, dI) vwCl ([zob g 1 [.ref al, .int (nI gr), .int (nI gs), .int (nI bg), .int (nI re), .int (nI (if ce < xf + a_v then xf + a_v else ce))], zob al 2 [.ref ed_2, .int (nI (n + 1)), .int (mo + nI 1)], zrf ed_2 c_2 p_2 a_2] ++ zcs (n + 1) (va_up ad n q22) (zcf (zpu d n (zrec xf ((gs + bg) - 1) a_v c_v d_v e_v gw b_v 0 0)))) H := by rw [e_z]; exact hP
          have hD : va_D A ([zob g 1 [.ref al, .int (nI gr), .int (nI gs), .int (nI bg), .int (nI re), .int (nI (if ce < xf + a_v then xf + a_v else ce))], zob al 2 [.ref ed_2, .int (nI (n + 1)), .int (mo + nI 1)], zrf ed_2 c_2 p_2 a_2] ++ zcs (n + 1) (va_up ad n q22) (zcf (zpu d n (zrec xf ((gs + bg) - 1) a_v c_v d_v e_v gw b_v 0 0)))) := by rw [e_z]; exact hD
          refine lv_aload_n hx hb dGR_putCell_103 rfl (lv_at hl 2 rfl) ?_
          refine lv_iload hx hb dGR_putCell_104 (lv_at hl 1 rfl) ?_
          refine lv_iload_n hx hb dGR_putCell_106 rfl (lv_at hl 4 rfl) ?_
          refine lv_iadd hx hb dGR_putCell_107 ?_
          refine lv_topi (fun x27 e28 => ?_)
          have e28 : x27 = nI (((gs + bg) - 1) + b_v) := e28.trans (nI_add _ _)
          subst e28
          refine zw_callTv (wr := []) hK hP hD hS hA [0, 1, 2] [] rfl rfl (by decide) (by decide) (va_runV (As := [.int (nI (((gs + bg) - 1) + b_v))]) (rest := []) ⟨hx, hb, hml, hown, hz⟩ ((f_GR_extendGroupTo l dC dI g gr gs bg re (if ce < xf + a_v then xf + a_v else ce) al ed_2 c_2 p_2 a_2 (mo + nI 1) (n + 1) (va_up ad n q22) (zpu d n (zrec xf ((gs + bg) - 1) a_v c_v d_v e_v gw b_v 0 0)) (((gs + bg) - 1) + b_v) (if re < gs + bg - 1 + b_v then gs + bg - 1 + b_v else re) (by omega) (by omega) (h_rad.2.2.2.2) (zpu_le hd (zrec_le (by omega))) (by refine ⟨by omega, by omega, by omega, by omega, ?_⟩; split <;> omega) (by omega) (zpu_top ht (by show gs + bg - 1 ≤ _; omega)) (rfl)) H.size) (cwV 1 hz (z_gV wd_185 wd_187 wd_0 wd_30 wd_188) rfl rfl rfl (by decide +kernel) ⟨Nat.le_of_ble_eq_true rfl, Nat.le_of_ble_eq_true rfl⟩) (zw_preVT hK hP hD (va_recv (q0 := 0) hK hP (q := (RGR, TGR, 6)) rfl rfl) [0, 1, 2] (by decide) rfl [1] rfl z_true (fun _ _ _ => trivial)) rfl rfl hl.1 rfl (lv_room (Nat.le_of_ble_eq_true rfl)) dGR_putCell_108 ⟨Nat.le_of_ble_eq_true rfl, Nat.le_of_ble_eq_true rfl⟩) (fun u H locs h_r29 hP hD hK hS => ?_)
          have hP : va_P (dC, dI) vwCl ([zob g 1 [.ref al, .int (nI gr), .int (nI gs), .int (nI bg), .int (nI (if re < gs + bg - 1 + b_v then gs + bg - 1 + b_v else re)), .int (nI (if ce < xf + a_v then xf + a_v else ce))], zob al 2 [.ref ed_2, .int (nI (n + 1)), .int (mo + nI 1)], zrf ed_2 c_2 p_2 a_2] ++ zcs (n + 1) (va_up ad n q22) (zcf (zGw (zpu d n (zrec xf ((gs + bg) - 1) a_v c_v d_v e_v gw b_v 0 0)) (n + 1) gs (if re < gs + bg - 1 + b_v then gs + bg - 1 + b_v else re)))) H := zt_sub hP [0, 1, 2] rfl
          have hD : va_D A ([zob g 1 [.ref al, .int (nI gr), .int (nI gs), .int (nI bg), .int (nI (if re < gs + bg - 1 + b_v then gs + bg - 1 + b_v else re)), .int (nI (if ce < xf + a_v then xf + a_v else ce))], zob al 2 [.ref ed_2, .int (nI (n + 1)), .int (mo + nI 1)], zrf ed_2 c_2 p_2 a_2] ++ zcs (n + 1) (va_up ad n q22) (zcf (zGw (zpu d n (zrec xf ((gs + bg) - 1) a_v c_v d_v e_v gw b_v 0 0)) (n + 1) gs (if re < gs + bg - 1 + b_v then gs + bg - 1 + b_v else re)))) := zt_subD hD [0, 1, 2] (by decide) rfl
          have hK : va_K (dC, dI) vwCl [(cE, .object "java/lang/Object"), (c_2, .object "java/lang/Object")] s := hK
          refine lv_aload_n hx hb dGR_putCell_111 rfl (lv_at hl 2 rfl) ?_
          refine va_get (D := (dC, dI)) (ci := 1) (v := .ref al) (C := RGR) (T := TGR) (N := 6) hx hb hz in_GR hown hK hP 0 rfl rfl 0 (by decide) (hz _ wd_85) (fun _ h9 => h9) rfl dGR_putCell_112 ?_
          refine vp_callSi (W.runV (As := []) (rest := []) ⟨hx, hb, hml, hown, hz⟩ (f_AL_size l dC dI al ed_2 (mo + nI 1) (n + 1) ) (cwV 0 hz (z_gV wd_192 wd_193 wd_194 wd_33 wd_195) rfl rfl rfl (by decide +kernel) ⟨Nat.le_of_ble_eq_true rfl, Nat.le_of_ble_eq_true rfl⟩) (zr_preV hK (hP.sub [1] rfl) (va_recv (q0 := 1) hK hP (q := (RAL, TAL, 3)) rfl rfl) [] rfl z_true (fun _ _ _ => trivial)) rfl rfl hl.1 rfl (lv_room (Nat.le_of_ble_eq_true rfl)) dGR_putCell_115 ⟨Nat.le_of_ble_eq_true rfl, Nat.le_of_ble_eq_true rfl⟩) (fun r30 h_r30 => ?_)
          have h_r30 : r30 = nI (n + 1) := h_r30
          subst h_r30
          refine lv_iconst (v := nI 1) hx hb dGR_putCell_118 (by decide) ?_
          refine lv_isub hx hb dGR_putCell_119 ?_
          refine lv_topi (fun x31 e32 => ?_)
          have e32 : x31 = nI n := e32.trans (pk_sub (by omega))
          subst e32
          subst hQ
          exact zw_iret (D := (dC, dI)) (cl := vwCl) (A := A) (n + 1, (if re < gs + bg - 1 + b_v then gs + bg - 1 + b_v else re), (if ce < xf + a_v then xf + a_v else ce), ed_2, c_2, p_2, a_2, mo + nI 1, va_up ad n q22, zGw (zpu d n (zrec xf ((gs + bg) - 1) a_v c_v d_v e_v gw b_v 0 0)) (n + 1) gs (if re < gs + bg - 1 + b_v then gs + bg - 1 + b_v else re)) hx hb hr hlocks (⟨Or.inr ⟨by omega, xf, hfr, Or.inr ⟨by omega, rfl, rfl, rfl, rfl, ⟨_, rfl⟩, by rw [h_gw]⟩⟩, by omega, by omega, by omega, h_rad.2.2.2.2⟩) (zt_sub hP [0, 1, 2] rfl) (hK.sub [1] rfl) (zt_subD hD [0, 1, 2] (by decide) rfl) hS dGR_putCell_120
        · have h3 := z_nle h3
          refine lv_iconst (v := (-1)) hx hb dGR_putCell_60 (by decide) ?_
          refine W.widen (k := 2) (n := 68) (Nat.le_of_ble_eq_true rfl) (Nat.le_of_ble_eq_true rfl) ?_
          subst hQ
          exact zw_iret (D := (dC, dI)) (cl := vwCl) (A := A) (n, re, ce, ed, cE, cap, a, mo, ad, d) hx hb hr hlocks (⟨Or.inr ⟨by omega, xf, hfr, Or.inl ⟨by omega, rfl, rfl, rfl, rfl, rfl, rfl⟩⟩, by omega, by omega, by omega, ha⟩) (zt_sub hP [0, 1, 2] rfl) (hK.sub [0] rfl) (zt_subD hD [0, 1, 2] (by decide) rfl) hS dGR_putCell_61
    · have h4 := z_nlt h4
      refine lv_iconst (v := (-1)) hx hb dGR_putCell_19 (by decide) ?_
      refine W.widen (k := 2) (n := 68) (Nat.le_of_ble_eq_true rfl) (Nat.le_of_ble_eq_true rfl) ?_
      subst hQ
      exact zw_iret (D := (dC, dI)) (cl := vwCl) (A := A) (n, re, ce, ed, cE, cap, a, mo, ad, d) hx hb hr hlocks (⟨Or.inl ⟨by omega, rfl, rfl, rfl, rfl, rfl, rfl⟩, by omega, by omega, by omega, ha⟩) (zt_sub hP [0, 1, 2] rfl) (hK.sub [0] rfl) (zt_subD hD [0, 1, 2] (by decide) rfl) hS dGR_putCell_20
