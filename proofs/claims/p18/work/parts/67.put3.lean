set_option maxHeartbeats 4000000 in
set_option maxRecDepth 100000 in
theorem f_SC_cell (l : Launch) (dC : Nat → ClassId) (dI : Nat → Nat → Nat) (h0 : Nat) (wd : Nat) (hh : Nat) (sp : Nat) (gp : Nat) (fx : Nat) (g : Nat) (gr : Nat) (gs : Nat) (bg : Nat) (re : Nat) (ce : Nat) (al : Nat) (ed : Nat) (cE : ClassId) (cap : Nat) (aa : Nat → Option Nat) (mo : Int32) (n : Nat) (ad : Nat → Nat) (d : Nat → Nat → Nat) (a : Int32) (b : Int32) (c1 : Int32) (d1 : Int32) (e1 : Int32) (mi : Nat) (hn : n ≤ cap) (hc : cap < 2147483648) (ha : ∀ k, k < n → aa k = some (ad k)) (hd : ∀ j k, k < n → d j k ≤ 1000) (hg : gr ≤ 1000 ∧ gs ≤ 1000 ∧ bg ≤ 1000 ∧ re ≤ 1000 ∧ ce ≤ 1000) (ht : ∀ k, k < n → d 1 k ≤ re) (hc2 : 2 ≤ cap ∧ cap ≤ 58) (hgb : gs + bg ≤ 12) : zw_Mi (S := (Nat) × (Nat) × (Nat) × (Nat) × (ClassId) × (Nat) × (Nat → Option Nat) × (Int32) × (Nat → Nat) × (Nat → Nat → Nat)) l ySC_cell wSC_cell ({ frames := 8, cells := 2, slots := 68, locals := 176 }) [.ref h0, .int a, .int b, .int c1, .int d1, .int e1] (dC, dI) vwCl ([zob h0 0 [.ref g, .ref wd, .ref hh, .int (nI sp), .int (nI gp), .int (nI fx)], zob g 1 [.ref al, .int (nI gr), .int (nI gs), .int (nI bg), .int (nI re), .int (nI ce)], zob al 2 [.ref ed, .int (nI n), .int mo], zrf ed cE cap aa] ++ zcs n ad (zcf d)) [(cE, .object "java/lang/Object")] (fun _ => zG0 mi) (fun r u => match u with | (n2, re2, ce2, ed2, cE2, cap2, a2, mo2, ad2, d2) => zCc n gs bg re ce ad d a b c1 d1 e1 r n2 re2 ce2 ad2 d2 ∧ n2 ≤ cap2 ∧ 2 ≤ cap2 ∧ cap2 ≤ 58 ∧ ∀ k, k < n2 → a2 k = some (ad2 k)) (fun u => match u with | (n2, re2, ce2, ed2, cE2, cap2, a2, mo2, ad2, d2) => ([zob h0 0 [.ref g, .ref wd, .ref hh, .int (nI sp), .int (nI gp), .int (nI fx)], zob g 1 [.ref al, .int (nI gr), .int (nI gs), .int (nI bg), .int (nI re2), .int (nI ce2)], zob al 2 [.ref ed2, .int (nI n2), .int mo2], zrf ed2 cE2 cap2 a2] ++ zcs n2 ad2 (zcf d2))) (fun u => match u with | (n2, re2, ce2, ed2, cE2, cap2, a2, mo2, ad2, d2) => [(cE2, .object "java/lang/Object")]) 2 68 := by
  refine zw_headi (cc := cSC_cell) (maxL := 9) (ret := (some .int)) (by decide +kernel) rfl (Nat.le_of_ble_eq_true rfl) ?_
  intro p e s m below meth c ls A F hA hP hK hD hS hX hl
  obtain ⟨hx, hb, hml, hr, hlocks, hown, hts⟩ := F
  have hown : s.vm.findClass "SpannedCells" = some m.cls := hown
  have hz : ∀ w9 ∈ zT, w9.before [.ref h0, .int a, .int b, .int c1, .int d1, .int e1].toArray s = true := fun w9 h => hts w9 (List.mem_cons_of_mem _ h)
  have hl : lv_has ls 9 [(0, .ref h0), (1, .int a), (2, .int b), (3, .int c1), (4, .int d1), (5, .int e1)] := hl
  have hN := hX.1
  refine z_q (fun Q hQ => ?_)
  have t_0 := nI_toInt (n := 0) (by omega)
  have t_1 := nI_toInt (n := 1) (by omega)
  have t_6 := nI_toInt (n := 6) (by omega)
  have t_k := nI_toInt (n := 1000) (by omega)
  refine z_join (fun v1 : Int32 => z_yn v1 ((1 ≤ a.toInt ∧ a.toInt ≤ 6) ∧ (0 ≤ b.toInt ∧ b.toInt ≤ 6))) (fun v1 => W p l e ({ frames := 8, cells := 2, slots := 68, locals := 176 }) s m [.ref h0, .int a, .int b, .int c1, .int d1, .int e1].toArray below meth c s.heap [] 0 0 Q (F0 m 25 ls (.int v1 :: []))) (fun v1 hv1 => ?_) (fun J25 => ?_)
  · refine lv_istore hx hb dSC_cell_25 hl (Nat.le_of_ble_eq_true rfl) rfl (fun ls hl => ?_)
    have hl : lv_has ls 9 [(6, .int v1), (0, .ref h0), (1, .int a), (2, .int b), (3, .int c1), (4, .int d1), (5, .int e1)] := hl
    refine z_join (fun v2 : Int32 => z_yn v2 ((0 ≤ c1.toInt ∧ c1.toInt ≤ d1.toInt) ∧ d1.toInt ≤ 1000)) (fun v2 => W p l e ({ frames := 8, cells := 2, slots := 68, locals := 176 }) s m [.ref h0, .int a, .int b, .int c1, .int d1, .int e1].toArray below meth c s.heap [] 0 0 Q (F0 m 54 ls (.int v2 :: []))) (fun v2 hv2 => ?_) (fun J54 => ?_)
    · refine lv_istore hx hb dSC_cell_54 hl (Nat.le_of_ble_eq_true rfl) rfl (fun ls hl => ?_)
      have hl : lv_has ls 9 [(7, .int v2), (6, .int v1), (0, .ref h0), (1, .int a), (2, .int b), (3, .int c1), (4, .int d1), (5, .int e1)] := hl
      refine lv_iload hx hb dSC_cell_56 (lv_at hl 7 rfl) ?_
      refine lv_iconst (v := nI 0) hx hb dSC_cell_58 (by decide) ?_
      refine lv_sipush (v := nI 1000) hx hb dSC_cell_59 (by decide) ?_
      refine vp_callSi (W.runS (As := [.int e1, .int (nI 0), .int (nI 1000)]) (rest := []) ⟨hx, hb, hml, hown, hz⟩ (f_SC_within l dC dI e1 (nI 0) (nI 1000) ) (va_cwS 3 hz (z_gS wd_219 wd_220 wd_29 wd_221) rfl rfl rfl (by decide +kernel) ⟨Nat.le_of_ble_eq_true rfl, Nat.le_of_ble_eq_true rfl⟩) (zr_preS hK (hP.sub [] rfl) [] rfl z_true (fun _ _ _ => trivial)) rfl rfl hl.1 rfl (lv_room (Nat.le_of_ble_eq_true rfl)) dSC_cell_62 ⟨Nat.le_of_ble_eq_true rfl, Nat.le_of_ble_eq_true rfl⟩) (fun re9 h_re9 => ?_)
      have h_re9 : z_yn re9 ((nI 0).toInt ≤ e1.toInt ∧ e1.toInt ≤ (nI 1000).toInt) := h_re9
      refine lv_istore hx hb dSC_cell_65 hl (Nat.le_of_ble_eq_true rfl) rfl (fun ls hl => ?_)
      have hl : lv_has ls 9 [(8, .int re9), (7, .int v2), (6, .int v1), (0, .ref h0), (1, .int a), (2, .int b), (3, .int c1), (4, .int d1), (5, .int e1)] := hl
      refine lv_iload hx hb dSC_cell_67 (lv_at hl 2 rfl) ?_
      refine lv_if_eq (tgt := 82) hx hb dSC_cell_69 rfl (fun h_v => ?_) (fun h_v => ?_)
      · have h_v := z_yF hv1 h_v
        refine lv_iconst (v := (-1)) hx hb dSC_cell_82 (by decide) ?_
        refine W.widen (k := 2) (n := 68) (Nat.le_of_ble_eq_true rfl) (Nat.le_of_ble_eq_true rfl) ?_
        subst hQ
        exact zw_iret (D := (dC, dI)) (cl := vwCl) (A := A) (n, re, ce, ed, cE, cap, aa, mo, ad, d) hx hb hr hlocks (⟨Or.inl ⟨fun h9 => h_v h9.1, rfl, rfl, rfl, rfl, rfl, rfl⟩, by omega, by omega, by omega, ha⟩) (zt_sub hP [0, 1, 2, 3] rfl) (hK.sub [0] rfl) (zt_subD hD [0, 1, 2, 3] (by decide) rfl) hS dSC_cell_83
      · have h_v := z_yT hv1 h_v
        refine lv_iload hx hb dSC_cell_72 (lv_at hl 1 rfl) ?_
        refine lv_if_eq (tgt := 82) hx hb dSC_cell_74 rfl (fun h_w => ?_) (fun h_w => ?_)
        · have h_w := z_yF hv2 h_w
          refine lv_iconst (v := (-1)) hx hb dSC_cell_82 (by decide) ?_
          refine W.widen (k := 2) (n := 68) (Nat.le_of_ble_eq_true rfl) (Nat.le_of_ble_eq_true rfl) ?_
          subst hQ
          exact zw_iret (D := (dC, dI)) (cl := vwCl) (A := A) (n, re, ce, ed, cE, cap, aa, mo, ad, d) hx hb hr hlocks (⟨Or.inl ⟨fun h9 => h_w h9.2.1, rfl, rfl, rfl, rfl, rfl, rfl⟩, by omega, by omega, by omega, ha⟩) (zt_sub hP [0, 1, 2, 3] rfl) (hK.sub [0] rfl) (zt_subD hD [0, 1, 2, 3] (by decide) rfl) hS dSC_cell_83
        · have h_w := z_yT hv2 h_w
          refine lv_iload hx hb dSC_cell_77 (lv_at hl 0 rfl) ?_
          refine lv_if_ne (tgt := 84) hx hb dSC_cell_79 rfl (fun h_x => ?_) (fun h_x => ?_)
          · have h_x := z_yT h_re9 h_x
            have h_g : zGood a b c1 d1 e1 := ⟨h_v, h_w, by omega⟩
            have h_g2 := h_g
            have h_g3 : ((1 ≤ a.toInt ∧ a.toInt ≤ 6) ∧ (0 ≤ b.toInt ∧ b.toInt ≤ 6)) ∧ ((0 ≤ c1.toInt ∧ c1.toInt ≤ d1.toInt) ∧ d1.toInt ≤ 1000) ∧ (0 ≤ e1.toInt ∧ e1.toInt ≤ 1000) := h_g
            obtain ⟨a_v, hz_a, rfl⟩ := z_ofIn (c := a) (n := 1001) (by omega) (by omega) (by omega)
            obtain ⟨b_v, hz_b, rfl⟩ := z_ofIn (c := b) (n := 1001) (by omega) (by omega) (by omega)
            obtain ⟨c1_v, hz_c1, rfl⟩ := z_ofIn (c := c1) (n := 1001) (by omega) (by omega) (by omega)
            obtain ⟨d1_v, hz_d1, rfl⟩ := z_ofIn (c := d1) (n := 1001) (by omega) (by omega) (by omega)
            obtain ⟨e1_v, hz_e1, rfl⟩ := z_ofIn (c := e1) (n := 1001) (by omega) (by omega) (by omega)
            have tz_a := nI_toInt (n := a_v) (by omega)
            have tz_b := nI_toInt (n := b_v) (by omega)
            have tz_c1 := nI_toInt (n := c1_v) (by omega)
            have tz_d1 := nI_toInt (n := d1_v) (by omega)
            have tz_e1 := nI_toInt (n := e1_v) (by omega)
            refine lv_aload_n hx hb dSC_cell_84 rfl (lv_at hl 3 rfl) ?_
            refine va_get (D := (dC, dI)) (ci := 0) (v := .ref g) (C := RSC) (T := TSC) (N := 6) hx hb hz in_SC hown hK hP 0 rfl rfl 0 (by decide) (hz _ wd_150) (fun _ h9 => h9) rfl dSC_cell_85 ?_
            refine lv_iload_n hx hb dSC_cell_88 rfl (lv_at hl 4 rfl) ?_
            refine lv_iload_n hx hb dSC_cell_89 rfl (lv_at hl 5 rfl) ?_
            refine lv_iload_n hx hb dSC_cell_90 rfl (lv_at hl 6 rfl) ?_
            refine lv_iload hx hb dSC_cell_91 (lv_at hl 7 rfl) ?_
            refine lv_iload hx hb dSC_cell_93 (lv_at hl 8 rfl) ?_
            refine zw_callTi (wr := [zob h0 0 [.ref g, .ref wd, .ref hh, .int (nI sp), .int (nI gp), .int (nI fx)]]) hK hP hD hS hA [1, 2, 3] [0] rfl rfl (by decide) (by decide) (va_runV (As := [.int (nI a_v), .int (nI b_v), .int (nI c1_v), .int (nI d1_v), .int (nI e1_v)]) (rest := []) ⟨hx, hb, hml, hown, hz⟩ ((f_GR_putCell l dC dI g gr gs bg re ce al ed cE cap aa mo n ad d a_v b_v c1_v d1_v e1_v mi (by omega) (by omega) (ha) (hd) (hg) (ht) (hc2) (by omega) (hgb)) s.heap.size) (cwV 5 hz (z_gV wd_222 wd_223 wd_224 wd_30 wd_225) rfl rfl rfl (by decide +kernel) ⟨Nat.le_of_ble_eq_true rfl, Nat.le_of_ble_eq_true rfl⟩) (zw_preVT hK hP hD (va_recv (q0 := 1) hK hP (q := (RGR, TGR, 6)) rfl rfl) [1, 2, 3] (by decide) rfl [0] rfl zG0_blind (zG0_call hX)) rfl rfl hl.1 rfl (lv_room (Nat.le_of_ble_eq_true rfl)) dSC_cell_95 ⟨Nat.le_of_ble_eq_true rfl, Nat.le_of_ble_eq_true rfl⟩) (fun rp u H locs h_rp hP hD hK hS => ?_)
            obtain ⟨x0_, x1_, x2_, x3_, x4_, x5_, x6_, x7_, x8_, x9_⟩ := u
            have hP : va_P (dC, dI) vwCl ([zob h0 0 [.ref g, .ref wd, .ref hh, .int (nI sp), .int (nI gp), .int (nI fx)], zob g 1 [.ref al, .int (nI gr), .int (nI gs), .int (nI bg), .int (nI x1_), .int (nI x2_)], zob al 2 [.ref x3_, .int (nI x0_), .int x7_], zrf x3_ x4_ x5_ x6_] ++ zcs x0_ x8_ (zcf x9_)) H := zt_sub hP [0, 1, 2, 3] rfl
            have hD : va_D A ([zob h0 0 [.ref g, .ref wd, .ref hh, .int (nI sp), .int (nI gp), .int (nI fx)], zob g 1 [.ref al, .int (nI gr), .int (nI gs), .int (nI bg), .int (nI x1_), .int (nI x2_)], zob al 2 [.ref x3_, .int (nI x0_), .int x7_], zrf x3_ x4_ x5_ x6_] ++ zcs x0_ x8_ (zcf x9_)) := zt_subD hD [0, 1, 2, 3] (by decide) rfl
            have hK : va_K (dC, dI) vwCl [(cE, .object "java/lang/Object"), (x4_, .object "java/lang/Object")] s := hK
            refine W.widen (k := 2) (n := 68) (Nat.le_of_ble_eq_true rfl) (Nat.le_of_ble_eq_true rfl) ?_
            have h_rp : zPc n gs bg re ce ad d a_v b_v c1_v d1_v e1_v rp x0_ x1_ x2_ x8_ x9_ ∧ x0_ ≤ x5_ ∧ 2 ≤ x5_ ∧ x5_ ≤ 58 ∧ ∀ k, k < x0_ → x6_ k = some (x8_ k) := h_rp
            subst hQ
            exact zw_iret (D := (dC, dI)) (cl := vwCl) (A := A) (x0_, x1_, x2_, x3_, x4_, x5_, x6_, x7_, x8_, x9_) hx hb hr hlocks (⟨Or.inr ⟨h_g2, a_v, b_v, c1_v, d1_v, e1_v, rfl, rfl, rfl, rfl, rfl, h_rp.1⟩, h_rp.2⟩) (zt_sub hP [0, 1, 2, 3] rfl) (hK.sub [1] rfl) (zt_subD hD [0, 1, 2, 3] (by decide) rfl) hS dSC_cell_98
          · have h_x := z_yF h_re9 h_x
            refine lv_iconst (v := (-1)) hx hb dSC_cell_82 (by decide) ?_
            refine W.widen (k := 2) (n := 68) (Nat.le_of_ble_eq_true rfl) (Nat.le_of_ble_eq_true rfl) ?_
            subst hQ
            exact zw_iret (D := (dC, dI)) (cl := vwCl) (A := A) (n, re, ce, ed, cE, cap, aa, mo, ad, d) hx hb hr hlocks (⟨Or.inl ⟨fun h9 => by have := h9.2.2; omega, rfl, rfl, rfl, rfl, rfl, rfl⟩, by omega, by omega, by omega, ha⟩) (zt_sub hP [0, 1, 2, 3] rfl) (hK.sub [0] rfl) (zt_subD hD [0, 1, 2, 3] (by decide) rfl) hS dSC_cell_83
    · refine lv_iload hx hb dSC_cell_27 (lv_at hl 5 rfl) ?_
      refine lv_iconst (v := nI 0) hx hb dSC_cell_29 (by decide) ?_
      refine lv_sipush (v := nI 1000) hx hb dSC_cell_30 (by decide) ?_
      refine vp_callSi (W.runS (As := [.int d1, .int (nI 0), .int (nI 1000)]) (rest := []) ⟨hx, hb, hml, hown, hz⟩ (f_SC_within l dC dI d1 (nI 0) (nI 1000) ) (va_cwS 3 hz (z_gS wd_219 wd_220 wd_29 wd_221) rfl rfl rfl (by decide +kernel) ⟨Nat.le_of_ble_eq_true rfl, Nat.le_of_ble_eq_true rfl⟩) (zr_preS hK (hP.sub [] rfl) [] rfl z_true (fun _ _ _ => trivial)) rfl rfl hl.1 rfl (lv_room (Nat.le_of_ble_eq_true rfl)) dSC_cell_33 ⟨Nat.le_of_ble_eq_true rfl, Nat.le_of_ble_eq_true rfl⟩) (fun rc h_rc => ?_)
      have h_rc : z_yn rc ((nI 0).toInt ≤ d1.toInt ∧ d1.toInt ≤ (nI 1000).toInt) := h_rc
      refine lv_if_eq (tgt := 53) hx hb dSC_cell_36 rfl (fun h_b => ?_) (fun h_b => ?_)
      · have h_b := z_yF h_rc h_b
        refine lv_iconst (v := nI 0) hx hb dSC_cell_53 (by decide) ?_
        exact J54 _ (z_y0 (by omega))
      · have h_b := z_yT h_rc h_b
        have h_c := h_b
        refine lv_iload_n hx hb dSC_cell_39 rfl (lv_at hl 4 rfl) ?_
        refine lv_iconst (v := nI 0) hx hb dSC_cell_40 (by decide) ?_
        refine lv_iload hx hb dSC_cell_41 (lv_at hl 5 rfl) ?_
        refine vp_callSi (W.runS (As := [.int c1, .int (nI 0), .int d1]) (rest := []) ⟨hx, hb, hml, hown, hz⟩ (f_SC_within l dC dI c1 (nI 0) d1 ) (va_cwS 3 hz (z_gS wd_219 wd_220 wd_29 wd_221) rfl rfl rfl (by decide +kernel) ⟨Nat.le_of_ble_eq_true rfl, Nat.le_of_ble_eq_true rfl⟩) (zr_preS hK (hP.sub [] rfl) [] rfl z_true (fun _ _ _ => trivial)) rfl rfl hl.1 rfl (lv_room (Nat.le_of_ble_eq_true rfl)) dSC_cell_43 ⟨Nat.le_of_ble_eq_true rfl, Nat.le_of_ble_eq_true rfl⟩) (fun rd h_rd => ?_)
        have h_rd : z_yn rd ((nI 0).toInt ≤ c1.toInt ∧ c1.toInt ≤ d1.toInt) := h_rd
        refine lv_if_eq (tgt := 53) hx hb dSC_cell_46 rfl (fun h_b => ?_) (fun h_b => ?_)
        · have h_b := z_yF h_rd h_b
          refine lv_iconst (v := nI 0) hx hb dSC_cell_53 (by decide) ?_
          exact J54 _ (z_y0 (by omega))
        · have h_b := z_yT h_rd h_b
          refine lv_iconst (v := nI 1) hx hb dSC_cell_49 (by decide) ?_
          refine lv_goto (tgt := 54) hx hb dSC_cell_50 rfl ?_
          exact J54 _ (z_y1 (by omega))
  · refine lv_iload_n hx hb dSC_cell_0 rfl (lv_at hl 1 rfl) ?_
    refine lv_iconst (v := nI 1) hx hb dSC_cell_1 (by decide) ?_
    refine lv_bipush (v := nI 6) hx hb dSC_cell_2 (by decide) ?_
    refine vp_callSi (W.runS (As := [.int a, .int (nI 1), .int (nI 6)]) (rest := []) ⟨hx, hb, hml, hown, hz⟩ (f_SC_within l dC dI a (nI 1) (nI 6) ) (va_cwS 3 hz (z_gS wd_219 wd_220 wd_29 wd_221) rfl rfl rfl (by decide +kernel) ⟨Nat.le_of_ble_eq_true rfl, Nat.le_of_ble_eq_true rfl⟩) (zr_preS hK (hP.sub [] rfl) [] rfl z_true (fun _ _ _ => trivial)) rfl rfl hl.1 rfl (lv_room (Nat.le_of_ble_eq_true rfl)) dSC_cell_4 ⟨Nat.le_of_ble_eq_true rfl, Nat.le_of_ble_eq_true rfl⟩) (fun ra h_ra => ?_)
    have h_ra : z_yn ra ((nI 1).toInt ≤ a.toInt ∧ a.toInt ≤ (nI 6).toInt) := h_ra
    refine lv_if_eq (tgt := 24) hx hb dSC_cell_7 rfl (fun h_b => ?_) (fun h_b => ?_)
    · have h_b := z_yF h_ra h_b
      refine lv_iconst (v := nI 0) hx hb dSC_cell_24 (by decide) ?_
      exact J25 _ (z_y0 (by omega))
    · have h_b := z_yT h_ra h_b
      have h_a := h_b
      refine lv_iload_n hx hb dSC_cell_10 rfl (lv_at hl 2 rfl) ?_
      refine lv_iconst (v := nI 0) hx hb dSC_cell_11 (by decide) ?_
      refine lv_bipush (v := nI 6) hx hb dSC_cell_12 (by decide) ?_
      refine vp_callSi (W.runS (As := [.int b, .int (nI 0), .int (nI 6)]) (rest := []) ⟨hx, hb, hml, hown, hz⟩ (f_SC_within l dC dI b (nI 0) (nI 6) ) (va_cwS 3 hz (z_gS wd_219 wd_220 wd_29 wd_221) rfl rfl rfl (by decide +kernel) ⟨Nat.le_of_ble_eq_true rfl, Nat.le_of_ble_eq_true rfl⟩) (zr_preS hK (hP.sub [] rfl) [] rfl z_true (fun _ _ _ => trivial)) rfl rfl hl.1 rfl (lv_room (Nat.le_of_ble_eq_true rfl)) dSC_cell_14 ⟨Nat.le_of_ble_eq_true rfl, Nat.le_of_ble_eq_true rfl⟩) (fun rb h_rb => ?_)
      have h_rb : z_yn rb ((nI 0).toInt ≤ b.toInt ∧ b.toInt ≤ (nI 6).toInt) := h_rb
      refine lv_if_eq (tgt := 24) hx hb dSC_cell_17 rfl (fun h_b => ?_) (fun h_b => ?_)
      · have h_b := z_yF h_rb h_b
        refine lv_iconst (v := nI 0) hx hb dSC_cell_24 (by decide) ?_
        exact J25 _ (z_y0 (by omega))
      · have h_b := z_yT h_rb h_b
        refine lv_iconst (v := nI 1) hx hb dSC_cell_20 (by decide) ?_
        refine lv_goto (tgt := 25) hx hb dSC_cell_21 rfl ?_
        exact J25 _ (z_y1 (by omega))
