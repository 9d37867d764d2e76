set_option maxHeartbeats 4000000 in
set_option maxRecDepth 100000 in
theorem y_SC_cell (l : Launch) (dC : Nat → ClassId) (dI : Nat → Nat → Nat) (h0 : Nat) (wd : Nat) (hh : Nat) (sp : Nat) (gp : Nat) (fx : Nat) (g : Nat) (al : Nat) (gr : Nat) (gs : Nat) (bg : Nat) (re : Nat) (t : Nat) (mo : Int32) (a_v : Nat) (b_v : Nat) (c_v : Nat) (d_v : Nat) (e_v : Nat) (ty : FieldType) (mi : Nat) (hg : gr ≤ 1000 ∧ gs ≤ 1000 ∧ bg ≤ 1000 ∧ re ≤ 1000) (hab : 1 ≤ a_v ∧ a_v ≤ 6 ∧ b_v ≤ 6 ∧ c_v ≤ 1000 ∧ d_v ≤ 1000 ∧ e_v ≤ 1000) (hyes : ¬ bg = 0 ∧ gs + bg - 1 + b_v ≤ 12) (hcd : c_v ≤ d_v) : zw_Mi (S := (Nat) × (ClassId) × (Nat)) l ySC_cell wSC_cell ({ frames := 6, cells := 2, slots := 68, locals := 128 }) [.ref h0, .int (nI a_v), .int (nI b_v), .int (nI c_v), .int (nI d_v), .int (nI e_v)] (dC, dI) vwCl ([zob h0 0 [.ref g, .ref wd, .ref hh, .int (nI sp), .int (nI gp), .int (nI fx)], zob g 1 [.ref al, .int (nI gr), .int (nI gs), .int (nI bg), .int (nI re), .int (nI 0)], zob al 2 [.ref t, .int (nI 0), .int mo]] ++ []) [] (zY t ty mi) (fun r u => match u with | (q2, c2, q9) => r = nI 0) (fun u => match u with | (q2, c2, q9) => ([zob h0 0 [.ref g, .ref wd, .ref hh, .int (nI sp), .int (nI gp), .int (nI fx)], zob g 1 [.ref al, .int (nI gr), .int (nI gs), .int (nI bg), .int (nI (if re < gs + bg - 1 + b_v then gs + bg - 1 + b_v else re)), .int (nI (0 + a_v))], zob al 2 [.ref q2, .int (nI 1), .int (mo + nI 1)], zrf q2 c2 10 (va_up (fun _ => none) 0 (some q9))] ++ zcs 1 (va_up (fun _ => 0) 0 q9) (zcf (zGw (zpu (fun _ _ => 0) 0 (zrec 0 (gs + bg - 1) a_v c_v d_v e_v (if b_v = 0 then 1 else 0) b_v 0 0)) 1 gs (if re < gs + bg - 1 + b_v then gs + bg - 1 + b_v else re))))) (fun u => match u with | (q2, c2, q9) => [(c2, .object "java/lang/Object")]) 2 68 := by
  refine zw_headi (cc := cSC_cell) (maxL := 9) (ret := (some .int)) (by decide +kernel) rfl (Nat.le_of_ble_eq_true rfl) ?_
  intro p e s m below meth c ls A F hA hP hK hD hS hX hl
  obtain ⟨hx, hb, hml, hr, hlocks, hown, hts⟩ := F
  have hown : s.vm.findClass "SpannedCells" = some m.cls := hown
  have hz : ∀ w9 ∈ zT, w9.before [.ref h0, .int (nI a_v), .int (nI b_v), .int (nI c_v), .int (nI d_v), .int (nI e_v)].toArray s = true := fun w9 h => hts w9 (List.mem_cons_of_mem _ h)
  have hl : lv_has ls 9 [(0, .ref h0), (1, .int (nI a_v)), (2, .int (nI b_v)), (3, .int (nI c_v)), (4, .int (nI d_v)), (5, .int (nI e_v))] := hl
  have hN := hX.1.1
  refine z_q (fun Q hQ => ?_)
  have t_0 := nI_toInt (n := 0) (by omega)
  have t_1 := nI_toInt (n := 1) (by omega)
  have t_6 := nI_toInt (n := 6) (by omega)
  have t_k := nI_toInt (n := 1000) (by omega)
  have tz_a_v := nI_toInt (n := a_v) (by omega)
  have tz_b_v := nI_toInt (n := b_v) (by omega)
  have tz_c_v := nI_toInt (n := c_v) (by omega)
  have tz_d_v := nI_toInt (n := d_v) (by omega)
  have tz_e_v := nI_toInt (n := e_v) (by omega)
  refine lv_iload_n hx hb dSC_cell_0 rfl (lv_at hl 1 rfl) ?_
  refine lv_iconst (v := nI 1) hx hb dSC_cell_1 (by decide) ?_
  refine lv_bipush (v := nI 6) hx hb dSC_cell_2 (by decide) ?_
  refine vp_callSi (W.runS (As := [.int (nI a_v), .int (nI 1), .int (nI 6)]) (rest := []) ⟨hx, hb, hml, hown, hz⟩ (f_SC_within l dC dI (nI a_v) (nI 1) (nI 6) ) (va_cwS 3 hz (z_gS wd_219 wd_220 wd_29 wd_221) rfl rfl rfl (by decide +kernel) ⟨Nat.le_of_ble_eq_true rfl, Nat.le_of_ble_eq_true rfl⟩) (zr_preS hK (hP.sub [] rfl) [] rfl z_true (fun _ _ _ => trivial)) rfl rfl hl.1 rfl (lv_room (Nat.le_of_ble_eq_true rfl)) dSC_cell_4 ⟨Nat.le_of_ble_eq_true rfl, Nat.le_of_ble_eq_true rfl⟩) (fun r1 h_r1 => ?_)
  have h_r1 : r1 = 1 := z_ynT h_r1 (by omega)
  subst h_r1
  refine lv_if_eq (tgt := 24) hx hb dSC_cell_7 rfl (fun h => absurd h (by decide)) (fun _ => ?_)
  refine lv_iload_n hx hb dSC_cell_10 rfl (lv_at hl 2 rfl) ?_
  refine lv_iconst (v := nI 0) hx hb dSC_cell_11 (by decide) ?_
  refine lv_bipush (v := nI 6) hx hb dSC_cell_12 (by decide) ?_
  refine vp_callSi (W.runS (As := [.int (nI b_v), .int (nI 0), .int (nI 6)]) (rest := []) ⟨hx, hb, hml, hown, hz⟩ (f_SC_within l dC dI (nI b_v) (nI 0) (nI 6) ) (va_cwS 3 hz (z_gS wd_219 wd_220 wd_29 wd_221) rfl rfl rfl (by decide +kernel) ⟨Nat.le_of_ble_eq_true rfl, Nat.le_of_ble_eq_true rfl⟩) (zr_preS hK (hP.sub [] rfl) [] rfl z_true (fun _ _ _ => trivial)) rfl rfl hl.1 rfl (lv_room (Nat.le_of_ble_eq_true rfl)) dSC_cell_14 ⟨Nat.le_of_ble_eq_true rfl, Nat.le_of_ble_eq_true rfl⟩) (fun r2 h_r2 => ?_)
  have h_r2 : r2 = 1 := z_ynT h_r2 (by omega)
  subst h_r2
  refine lv_if_eq (tgt := 24) hx hb dSC_cell_17 rfl (fun h => absurd h (by decide)) (fun _ => ?_)
  refine lv_iconst (v := nI 1) hx hb dSC_cell_20 (by decide) ?_
  refine lv_goto (tgt := 25) hx hb dSC_cell_21 rfl ?_
  refine lv_istore hx hb dSC_cell_25 hl (Nat.le_of_ble_eq_true rfl) rfl (fun ls hl => ?_)
  have hl : lv_has ls 9 [(6, .int (nI 1)), (0, .ref h0), (1, .int (nI a_v)), (2, .int (nI b_v)), (3, .int (nI c_v)), (4, .int (nI d_v)), (5, .int (nI e_v))] := hl
  refine lv_iload hx hb dSC_cell_27 (lv_at hl 5 rfl) ?_
  refine lv_iconst (v := nI 0) hx hb dSC_cell_29 (by decide) ?_
  refine lv_sipush (v := nI 1000) hx hb dSC_cell_30 (by decide) ?_
  refine vp_callSi (W.runS (As := [.int (nI d_v), .int (nI 0), .int (nI 1000)]) (rest := []) ⟨hx, hb, hml, hown, hz⟩ (f_SC_within l dC dI (nI d_v) (nI 0) (nI 1000) ) (va_cwS 3 hz (z_gS wd_219 wd_220 wd_29 wd_221) rfl rfl rfl (by decide +kernel) ⟨Nat.le_of_ble_eq_true rfl, Nat.le_of_ble_eq_true rfl⟩) (zr_preS hK (hP.sub [] rfl) [] rfl z_true (fun _ _ _ => trivial)) rfl rfl hl.1 rfl (lv_room (Nat.le_of_ble_eq_true rfl)) dSC_cell_33 ⟨Nat.le_of_ble_eq_true rfl, Nat.le_of_ble_eq_true rfl⟩) (fun r3 h_r3 => ?_)
  have h_r3 : r3 = 1 := z_ynT h_r3 (by omega)
  subst h_r3
  refine lv_if_eq (tgt := 53) hx hb dSC_cell_36 rfl (fun h => absurd h (by decide)) (fun _ => ?_)
  refine lv_iload_n hx hb dSC_cell_39 rfl (lv_at hl 4 rfl) ?_
  refine lv_iconst (v := nI 0) hx hb dSC_cell_40 (by decide) ?_
  refine lv_iload hx hb dSC_cell_41 (lv_at hl 5 rfl) ?_
  refine vp_callSi (W.runS (As := [.int (nI c_v), .int (nI 0), .int (nI d_v)]) (rest := []) ⟨hx, hb, hml, hown, hz⟩ (f_SC_within l dC dI (nI c_v) (nI 0) (nI d_v) ) (va_cwS 3 hz (z_gS wd_219 wd_220 wd_29 wd_221) rfl rfl rfl (by decide +kernel) ⟨Nat.le_of_ble_eq_true rfl, Nat.le_of_ble_eq_true rfl⟩) (zr_preS hK (hP.sub [] rfl) [] rfl z_true (fun _ _ _ => trivial)) rfl rfl hl.1 rfl (lv_room (Nat.le_of_ble_eq_true rfl)) dSC_cell_43 ⟨Nat.le_of_ble_eq_true rfl, Nat.le_of_ble_eq_true rfl⟩) (fun r4 h_r4 => ?_)
  have h_r4 : r4 = 1 := z_ynT h_r4 (by omega)
  subst h_r4
  refine lv_if_eq (tgt := 53) hx hb dSC_cell_46 rfl (fun h => absurd h (by decide)) (fun _ => ?_)
  refine lv_iconst (v := nI 1) hx hb dSC_cell_49 (by decide) ?_
  refine lv_goto (tgt := 54) hx hb dSC_cell_50 rfl ?_
  refine lv_istore hx hb dSC_cell_54 hl (Nat.le_of_ble_eq_true rfl) rfl (fun ls hl => ?_)
  have hl : lv_has ls 9 [(7, .int (nI 1)), (6, .int (nI 1)), (0, .ref h0), (1, .int (nI a_v)), (2, .int (nI b_v)), (3, .int (nI c_v)), (4, .int (nI d_v)), (5, .int (nI e_v))] := hl
  refine lv_iload hx hb dSC_cell_56 (lv_at hl 7 rfl) ?_
  refine lv_iconst (v := nI 0) hx hb dSC_cell_58 (by decide) ?_
  refine lv_sipush (v := nI 1000) hx hb dSC_cell_59 (by decide) ?_
  refine vp_callSi (W.runS (As := [.int (nI e_v), .int (nI 0), .int (nI 1000)]) (rest := []) ⟨hx, hb, hml, hown, hz⟩ (f_SC_within l dC dI (nI e_v) (nI 0) (nI 1000) ) (va_cwS 3 hz (z_gS wd_219 wd_220 wd_29 wd_221) rfl rfl rfl (by decide +kernel) ⟨Nat.le_of_ble_eq_true rfl, Nat.le_of_ble_eq_true rfl⟩) (zr_preS hK (hP.sub [] rfl) [] rfl z_true (fun _ _ _ => trivial)) rfl rfl hl.1 rfl (lv_room (Nat.le_of_ble_eq_true rfl)) dSC_cell_62 ⟨Nat.le_of_ble_eq_true rfl, Nat.le_of_ble_eq_true rfl⟩) (fun r5 h_r5 => ?_)
  have h_r5 : r5 = 1 := z_ynT h_r5 (by omega)
  subst h_r5
  refine lv_istore hx hb dSC_cell_65 hl (Nat.le_of_ble_eq_true rfl) rfl (fun ls hl => ?_)
  have hl : lv_has ls 9 [(8, .int 1), (7, .int (nI 1)), (6, .int (nI 1)), (0, .ref h0), (1, .int (nI a_v)), (2, .int (nI b_v)), (3, .int (nI c_v)), (4, .int (nI d_v)), (5, .int (nI e_v))] := hl
  refine lv_iload hx hb dSC_cell_67 (lv_at hl 2 rfl) ?_
  refine lv_if_eq (tgt := 82) hx hb dSC_cell_69 rfl (fun h => absurd h (by decide)) (fun _ => ?_)
  refine lv_iload hx hb dSC_cell_72 (lv_at hl 1 rfl) ?_
  refine lv_if_eq (tgt := 82) hx hb dSC_cell_74 rfl (fun h => absurd h (by decide)) (fun _ => ?_)
  refine lv_iload hx hb dSC_cell_77 (lv_at hl 0 rfl) ?_
  refine lv_if_ne (tgt := 84) hx hb dSC_cell_79 rfl (fun _ => ?_) (fun h => absurd h (by decide))
  refine lv_aload_n hx hb dSC_cell_84 rfl (lv_at hl 3 rfl) ?_
  refine va_get (D := (dC, dI)) (ci := 0) (v := .ref g) (C := RSC) (T := TSC) (N := 6) hx hb hz in_SC hown hK hP 0 rfl rfl 0 (by decide) (hz _ wd_150) (fun _ h9 => h9) rfl dSC_cell_85 ?_
  refine lv_iload_n hx hb dSC_cell_88 rfl (lv_at hl 4 rfl) ?_
  refine lv_iload_n hx hb dSC_cell_89 rfl (lv_at hl 5 rfl) ?_
  refine lv_iload_n hx hb dSC_cell_90 rfl (lv_at hl 6 rfl) ?_
  refine lv_iload hx hb dSC_cell_91 (lv_at hl 7 rfl) ?_
  refine lv_iload hx hb dSC_cell_93 (lv_at hl 8 rfl) ?_
  refine zw_callTi (wr := [zob h0 0 [.ref g, .ref wd, .ref hh, .int (nI sp), .int (nI gp), .int (nI fx)]]) hK hP hD hS hA [1, 2] [0] rfl rfl (by decide) (by decide) (va_runV (As := [.int (nI a_v), .int (nI b_v), .int (nI c_v), .int (nI d_v), .int (nI e_v)]) (rest := []) ⟨hx, hb, hml, hown, hz⟩ ((y_GR_putCell l dC dI g al gr gs bg re t mo a_v b_v c_v d_v e_v ty mi (by omega) (by omega) (hyes)) s.heap.size) (cwV 5 hz (z_gV wd_222 wd_223 wd_224 wd_30 wd_225) rfl rfl rfl (by decide +kernel) ⟨Nat.le_of_ble_eq_true rfl, Nat.le_of_ble_eq_true rfl⟩) (zw_preVT hK hP hD (va_recv (q0 := 1) hK hP (q := (RGR, TGR, 6)) rfl rfl) [1, 2] (by decide) rfl [] rfl zY_blind (zY_call hX hS (z_freeT hD hS hA [1, 2] rfl))) rfl rfl hl.1 rfl (lv_room (Nat.le_of_ble_eq_true rfl)) dSC_cell_95 ⟨Nat.le_of_ble_eq_true rfl, Nat.le_of_ble_eq_true rfl⟩) (fun r6 u H locs h_r6 hP hD hK hS => ?_)
  obtain ⟨q_2, c_2, q_9⟩ := u
  have hP : va_P (dC, dI) vwCl ([zob h0 0 [.ref g, .ref wd, .ref hh, .int (nI sp), .int (nI gp), .int (nI fx)], zob g 1 [.ref al, .int (nI gr), .int (nI gs), .int (nI bg), .int (nI (if re < gs + bg - 1 + b_v then gs + bg - 1 + b_v else re)), .int (nI (0 + a_v))], zob al 2 [.ref q_2, .int (nI 1), .int (mo + nI 1)], zrf q_2 c_2 10 (va_up (fun _ => none) 0 (some q_9))] ++ zcs 1 (va_up (fun _ => 0) 0 q_9) (zcf (zGw (zpu (fun _ _ => 0) 0 (zrec 0 (gs + bg - 1) a_v c_v d_v e_v (if b_v = 0 then 1 else 0) b_v 0 0)) 1 gs (if re < gs + bg - 1 + b_v then gs + bg - 1 + b_v else re)))) H := zt_sub hP [0, 1, 2, 3] rfl
  have hD : va_D A ([zob h0 0 [.ref g, .ref wd, .ref hh, .int (nI sp), .int (nI gp), .int (nI fx)], zob g 1 [.ref al, .int (nI gr), .int (nI gs), .int (nI bg), .int (nI (if re < gs + bg - 1 + b_v then gs + bg - 1 + b_v else re)), .int (nI (0 + a_v))], zob al 2 [.ref q_2, .int (nI 1), .int (mo + nI 1)], zrf q_2 c_2 10 (va_up (fun _ => none) 0 (some q_9))] ++ zcs 1 (va_up (fun _ => 0) 0 q_9) (zcf (zGw (zpu (fun _ _ => 0) 0 (zrec 0 (gs + bg - 1) a_v c_v d_v e_v (if b_v = 0 then 1 else 0) b_v 0 0)) 1 gs (if re < gs + bg - 1 + b_v then gs + bg - 1 + b_v else re)))) := zt_subD hD [0, 1, 2, 3] (by decide) rfl
  have hK : va_K (dC, dI) vwCl [(c_2, .object "java/lang/Object")] s := hK
  refine W.widen (k := 2) (n := 68) (Nat.le_of_ble_eq_true rfl) (Nat.le_of_ble_eq_true rfl) ?_
  have h_r6 : r6 = nI 0 := h_r6
  subst h_r6
  subst hQ
  exact zw_iret (D := (dC, dI)) (cl := vwCl) (A := A) (q_2, c_2, q_9) hx hb hr hlocks (rfl) (zt_sub hP [0, 1, 2, 3] rfl) (hK.sub [0] rfl) (zt_subD hD [0, 1, 2, 3] (by decide) rfl) hS dSC_cell_98
