set_option maxHeartbeats 4000000 in
set_option maxRecDepth 100000 in
theorem y_GR_putCell (l : Launch) (dC : Nat → ClassId) (dI : Nat → Nat → Nat) (g : Nat) (al : Nat) (gr : Nat) (gs : Nat) (bg : Nat) (re : Nat) (t : Nat) (mo : Int32) (a_v : Nat) (b_v : Nat) (c_v : Nat) (d_v : Nat) (e_v : Nat) (ty : FieldType) (mi : Nat) (hg : gr ≤ 1000 ∧ gs ≤ 1000 ∧ bg ≤ 1000 ∧ re ≤ 1000) (hab : 1 ≤ a_v ∧ a_v ≤ 6 ∧ b_v ≤ 6 ∧ c_v ≤ 1000 ∧ d_v ≤ 1000 ∧ e_v ≤ 1000) (hyes : ¬ bg = 0 ∧ gs + bg - 1 + b_v ≤ 12) : zw_Mi (S := (Nat) × (ClassId) × (Nat)) l yGR_putCell wGR_putCell ({ frames := 5, cells := 2, slots := 68, locals := 101 }) [.ref g, .int (nI a_v), .int (nI b_v), .int (nI c_v), .int (nI d_v), .int (nI e_v)] (dC, dI) vwCl ([zob g 1 [.ref al, .int (nI gr), .int (nI gs), .int (nI bg), .int (nI re), .int (nI 0)], zob al 2 [.ref t, .int (nI 0), .int mo]] ++ []) [] (zY t ty mi) (fun r u => match u with | (q2, c2, q9) => r = nI 0) (fun u => match u with | (q2, c2, q9) => ([zob g 1 [.ref al, .int (nI gr), .int (nI gs), .int (nI bg), .int (nI (if re < gs + bg - 1 + b_v then gs + bg - 1 + b_v else re)), .int (nI (0 + a_v))], zob al 2 [.ref q2, .int (nI 1), .int (mo + nI 1)], zrf q2 c2 10 (va_up (fun _ => none) 0 (some q9))] ++ zcs 1 (va_up (fun _ => 0) 0 q9) (zcf (zGw (zpu (fun _ _ => 0) 0 (zrec 0 (gs + bg - 1) a_v c_v d_v e_v (if b_v = 0 then 1 else 0) b_v 0 0)) 1 gs (if re < gs + bg - 1 + b_v then gs + bg - 1 + b_v else re))))) (fun u => match u with | (q2, c2, q9) => [(c2, .object "java/lang/Object")]) 2 68 := by
  refine zw_headi (cc := cGR_putCell) (maxL := 8) (ret := (some .int)) (by decide +kernel) rfl (Nat.le_of_ble_eq_true rfl) ?_
  intro p e s m below meth c ls A F hA hP hK hD hS hX hl
  obtain ⟨hx, hb, hml, hr, hlocks, hown, hts⟩ := F
  have hown : s.vm.findClass "SpannedCells$Grid" = some m.cls := hown
  have hz : ∀ w9 ∈ zT, w9.before [.ref g, .int (nI a_v), .int (nI b_v), .int (nI c_v), .int (nI d_v), .int (nI e_v)].toArray s = true := fun w9 h => hts w9 (List.mem_cons_of_mem _ h)
  have hl : lv_has ls 8 [(0, .ref g), (1, .int (nI a_v)), (2, .int (nI b_v)), (3, .int (nI c_v)), (4, .int (nI d_v)), (5, .int (nI e_v))] := hl
  have hN := hX.1.1
  refine z_q (fun Q hQ => ?_)
  refine lv_aload_n hx hb dGR_putCell_0 rfl (lv_at hl 0 rfl) ?_
  refine va_get (D := (dC, dI)) (ci := 1) (v := .int (nI bg)) (C := RGR) (T := TGR) (N := 6) hx hb hz in_GR hown hK hP 0 rfl rfl 3 (by decide) (hz _ wd_88) (fun _ h9 => h9) rfl dGR_putCell_1 ?_
  have t1 := nI_toInt (n := bg) (by omega)
  have t2 : (0 : Int32).toInt = 0 := by decide
  refine lv_if_eq (tgt := 19) hx hb dGR_putCell_4 rfl (fun h => by have h := z_eq h; omega) (fun _ => ?_)
  refine lv_aload_n hx hb dGR_putCell_7 rfl (lv_at hl 0 rfl) ?_
  refine va_get (D := (dC, dI)) (ci := 1) (v := .ref al) (C := RGR) (T := TGR) (N := 6) hx hb hz in_GR hown hK hP 0 rfl rfl 0 (by decide) (hz _ wd_85) (fun _ h9 => h9) rfl dGR_putCell_8 ?_
  refine vp_callSi (W.runV (As := []) (rest := []) ⟨hx, hb, hml, hown, hz⟩ (f_AL_size l dC dI al t mo 0 ) (cwV 0 hz (z_gV wd_192 wd_193 wd_194 wd_33 wd_195) rfl rfl rfl (by decide +kernel) ⟨Nat.le_of_ble_eq_true rfl, Nat.le_of_ble_eq_true rfl⟩) (zr_preV hK (hP.sub [1] rfl) (va_recv (q0 := 1) hK hP (q := (RAL, TAL, 3)) rfl rfl) [] rfl z_true (fun _ _ _ => trivial)) rfl rfl hl.1 rfl (lv_room (Nat.le_of_ble_eq_true rfl)) dGR_putCell_11 ⟨Nat.le_of_ble_eq_true rfl, Nat.le_of_ble_eq_true rfl⟩) (fun r3 h_r3 => ?_)
  have h_r3 : r3 = nI 0 := h_r3
  subst h_r3
  refine lv_bipush (v := nI 40) hx hb dGR_putCell_14 (by decide) ?_
  refine lv_icmp_lt (tgt := 21) hx hb dGR_putCell_16 rfl (fun _ => ?_) (fun h => absurd (by decide) h)
  refine lv_aload_n hx hb dGR_putCell_21 rfl (lv_at hl 0 rfl) ?_
  refine va_get (D := (dC, dI)) (ci := 1) (v := .int (nI gs)) (C := RGR) (T := TGR) (N := 6) hx hb hz in_GR hown hK hP 0 rfl rfl 2 (by decide) (hz _ wd_87) (fun _ h9 => h9) rfl dGR_putCell_22 ?_
  refine lv_aload_n hx hb dGR_putCell_25 rfl (lv_at hl 0 rfl) ?_
  refine va_get (D := (dC, dI)) (ci := 1) (v := .int (nI bg)) (C := RGR) (T := TGR) (N := 6) hx hb hz in_GR hown hK hP 0 rfl rfl 3 (by decide) (hz _ wd_88) (fun _ h9 => h9) rfl dGR_putCell_26 ?_
  refine lv_iadd hx hb dGR_putCell_29 ?_
  refine lv_topi (fun x4 e5 => ?_)
  have e5 : x4 = nI (gs + bg) := e5.trans (nI_add _ _)
  subst e5
  refine lv_iconst (v := nI 1) hx hb dGR_putCell_30 (by decide) ?_
  refine lv_isub hx hb dGR_putCell_31 ?_
  refine lv_topi (fun x6 e7 => ?_)
  have e7 : x6 = nI ((gs + bg) - 1) := e7.trans (pk_sub (by omega))
  subst e7
  refine lv_istore hx hb dGR_putCell_32 hl (Nat.le_of_ble_eq_true rfl) rfl (fun ls hl => ?_)
  have hl : lv_has ls 8 [(6, .int (nI ((gs + bg) - 1))), (0, .ref g), (1, .int (nI a_v)), (2, .int (nI b_v)), (3, .int (nI c_v)), (4, .int (nI d_v)), (5, .int (nI e_v))] := hl
  refine lv_aload_n hx hb dGR_putCell_34 rfl (lv_at hl 1 rfl) ?_
  refine lv_iload hx hb dGR_putCell_35 (lv_at hl 0 rfl) ?_
  refine vp_callSi (W.runV (As := [.int (nI ((gs + bg) - 1))]) (rest := []) ⟨hx, hb, hml, hown, hz⟩ (e_GR_firstFreeColumn l dC dI g al gr gs bg re t mo (nI ((gs + bg) - 1)) (by omega)) (cwV 1 hz (z_gV wd_226 wd_228 wd_1 wd_30 wd_229) rfl rfl rfl (by decide +kernel) ⟨Nat.le_of_ble_eq_true rfl, Nat.le_of_ble_eq_true rfl⟩) (zr_preV hK (hP.sub [0, 1] rfl) (va_recv (q0 := 0) hK hP (q := (RGR, TGR, 6)) rfl rfl) [] rfl z_true (fun _ _ _ => trivial)) rfl rfl hl.1 rfl (lv_room (Nat.le_of_ble_eq_true rfl)) dGR_putCell_37 ⟨Nat.le_of_ble_eq_true rfl, Nat.le_of_ble_eq_true rfl⟩) (fun r8 h_r8 => ?_)
  have h_r8 : r8 = nI 0 := h_r8
  subst h_r8
  refine lv_istore hx hb dGR_putCell_40 hl (Nat.le_of_ble_eq_true rfl) rfl (fun ls hl => ?_)
  have hl : lv_has ls 8 [(7, .int (nI 0)), (6, .int (nI ((gs + bg) - 1))), (0, .ref g), (1, .int (nI a_v)), (2, .int (nI b_v)), (3, .int (nI c_v)), (4, .int (nI d_v)), (5, .int (nI e_v))] := hl
  refine lv_iload hx hb dGR_putCell_42 (lv_at hl 0 rfl) ?_
  refine lv_iload_n hx hb dGR_putCell_44 rfl (lv_at hl 3 rfl) ?_
  refine lv_iadd hx hb dGR_putCell_45 ?_
  refine lv_topi (fun x9 e10 => ?_)
  have e10 : x9 = nI (0 + a_v) := e10.trans (nI_add _ _)
  subst e10
  refine lv_bipush (v := nI 12) hx hb dGR_putCell_46 (by decide) ?_
  have t11 := nI_toInt (n := 0 + a_v) (by omega)
  have t12 := nI_toInt (n := 12) (by omega)
  refine lv_icmp_gt (tgt := 60) hx hb dGR_putCell_48 rfl (fun h => by have h := z_lt h; omega) (fun _ => ?_)
  refine lv_iload hx hb dGR_putCell_51 (lv_at hl 1 rfl) ?_
  refine lv_iload_n hx hb dGR_putCell_53 rfl (lv_at hl 4 rfl) ?_
  refine lv_iadd hx hb dGR_putCell_54 ?_
  refine lv_topi (fun x13 e14 => ?_)
  have e14 : x13 = nI (((gs + bg) - 1) + b_v) := e14.trans (nI_add _ _)
  subst e14
  refine lv_bipush (v := nI 12) hx hb dGR_putCell_55 (by decide) ?_
  have t15 := nI_toInt (n := ((gs + bg) - 1) + b_v) (by omega)
  have t16 := nI_toInt (n := 12) (by omega)
  refine lv_icmp_le (tgt := 62) hx hb dGR_putCell_57 rfl (fun _ => ?_) (fun h => by have h := z_nle h; omega)
  refine lv_aload_n hx hb dGR_putCell_62 rfl (lv_at hl 2 rfl) ?_
  refine va_get (D := (dC, dI)) (ci := 1) (v := .ref al) (C := RGR) (T := TGR) (N := 6) hx hb hz in_GR hown hK hP 0 rfl rfl 0 (by decide) (hz _ wd_85) (fun _ h9 => h9) rfl dGR_putCell_63 ?_
  refine va_new (ci := 7) (fs := [.int (nI 0), .int (nI 0), .int (nI 0), .int (nI 0), .int (nI 0), .int (nI 0), .int (nI 0), .int (nI 0), .int (nI 0), .int (nI 0)]) (C := RCE) (T := TCE) (N := 10) hx hb hz in_CE tyCE tokCE hown (hz _ wd_210) (hz _ wd_246) (hz _ wd_41) hK hP hD hS hA rfl (by decide +kernel) (Nat.le_of_ble_eq_true rfl) (Nat.le_of_ble_eq_true rfl) dGR_putCell_66 (fun q17 H hP hD hS => ?_)
  have hP := zP_perm z_pm hP
  have hD := zD_perm z_pm hD
  have hP : va_P (dC, dI) vwCl ([zob g 1 [.ref al, .int (nI gr), .int (nI gs), .int (nI bg), .int (nI re), .int (nI 0)], zob al 2 [.ref t, .int (nI 0), .int mo], zob q17 7 [.int (nI 0), .int (nI 0), .int (nI 0), .int (nI 0), .int (nI 0), .int (nI 0), .int (nI 0), .int (nI 0), .int (nI 0), .int (nI 0)]] ++ []) H := hP
  have hD : va_D A ([zob g 1 [.ref al, .int (nI gr), .int (nI gs), .int (nI bg), .int (nI re), .int (nI 0)], zob al 2 [.ref t, .int (nI 0), .int mo], zob q17 7 [.int (nI 0), .int (nI 0), .int (nI 0), .int (nI 0), .int (nI 0), .int (nI 0), .int (nI 0), .int (nI 0), .int (nI 0), .int (nI 0)]] ++ []) := hD
  refine W.widen (k := 1) (n := 10) (Nat.le_of_ble_eq_true rfl) (Nat.le_of_ble_eq_true rfl) ?_
  refine lv_dup hx hb dGR_putCell_69 rfl ?_
  refine lv_iload hx hb dGR_putCell_70 (lv_at hl 0 rfl) ?_
  refine lv_iload hx hb dGR_putCell_72 (lv_at hl 1 rfl) ?_
  refine lv_iload_n hx hb dGR_putCell_74 rfl (lv_at hl 3 rfl) ?_
  refine lv_iload_n hx hb dGR_putCell_75 rfl (lv_at hl 4 rfl) ?_
  refine lv_iload_n hx hb dGR_putCell_76 rfl (lv_at hl 5 rfl) ?_
  refine lv_iload hx hb dGR_putCell_77 (lv_at hl 6 rfl) ?_
  refine lv_iload hx hb dGR_putCell_79 (lv_at hl 7 rfl) ?_
  refine zw_callTv (wr := [zob g 1 [.ref al, .int (nI gr), .int (nI gs), .int (nI bg), .int (nI re), .int (nI 0)], zob al 2 [.ref t, .int (nI 0), .int mo]]) hK hP hD hS hA [2] [0, 1] rfl rfl (by decide) (by decide) (va_runI (As := [.int (nI 0), .int (nI ((gs + bg) - 1)), .int (nI a_v), .int (nI b_v), .int (nI c_v), .int (nI d_v), .int (nI e_v)]) (rest := [.ref q17, .ref al]) ⟨hx, hb, hml, hown, hz⟩ ((g_CE_init l dC dI ([]) q17 0 ((gs + bg) - 1) a_v b_v c_v d_v e_v (by omega)) H.size) (cwI 7 hz (z_gI wd_249) rfl rfl rfl (hz _ wd_41) (hz _ wd_247) (hz _ wd_248) rfl (by decide +kernel) ⟨Nat.le_of_ble_eq_true rfl, Nat.le_of_ble_eq_true rfl⟩) (zw_preST hK hP hD [2] (by decide) rfl [] rfl z_true (fun _ _ _ => trivial)) rfl rfl hl.1 rfl (lv_room (Nat.le_of_ble_eq_true rfl)) dGR_putCell_81 ⟨Nat.le_of_ble_eq_true rfl, Nat.le_of_ble_eq_true rfl⟩) (fun u H locs h_gw hP hD hK hS => ?_)
  obtain ⟨gw, rfl⟩ : ∃ z, z = u := ⟨_, rfl⟩
  have hP : va_P (dC, dI) vwCl ([zob g 1 [.ref al, .int (nI gr), .int (nI gs), .int (nI bg), .int (nI re), .int (nI 0)], zob al 2 [.ref t, .int (nI 0), .int mo], zob q17 7 [.int (nI 0), .int (nI ((gs + bg) - 1)), .int (nI a_v), .int (nI c_v), .int (nI d_v), .int (nI e_v), .int (nI gw), .int (nI b_v), .int (nI 0), .int (nI 0)]] ++ []) H := zt_sub hP [0, 1, 2] rfl
  have hD : va_D A ([zob g 1 [.ref al, .int (nI gr), .int (nI gs), .int (nI bg), .int (nI re), .int (nI 0)], zob al 2 [.ref t, .int (nI 0), .int mo], zob q17 7 [.int (nI 0), .int (nI ((gs + bg) - 1)), .int (nI a_v), .int (nI c_v), .int (nI d_v), .int (nI e_v), .int (nI gw), .int (nI b_v), .int (nI 0), .int (nI 0)]] ++ []) := zt_subD hD [0, 1, 2] (by decide) rfl
  have hK : va_K (dC, dI) vwCl [] s := hK
  have h_gw : gw = if b_v = 0 then 1 else 0 := h_gw
  have hgw1 : gw ≤ 1 := by rw [h_gw]; split <;> omega
  refine zw_callTi (wr := [zob g 1 [.ref al, .int (nI gr), .int (nI gs), .int (nI bg), .int (nI re), .int (nI 0)]]) hK hP hD hS hA [1, 2] [0] rfl rfl (by decide) (by decide) (va_runV (As := [.ref q17]) (rest := []) ⟨hx, hb, hml, hown, hz⟩ ((e_AL_add l dC dI ([]) al t mo q17 0 ((gs + bg) - 1) a_v c_v d_v e_v gw b_v 0 0 ty mi ) H.size) (cwV 1 hz (z_gV wd_298 wd_299 wd_300 wd_33 wd_301) rfl rfl rfl (by decide +kernel) ⟨Nat.le_of_ble_eq_true rfl, Nat.le_of_ble_eq_true rfl⟩) (zw_preVT hK hP hD (va_recv (q0 := 1) hK hP (q := (RAL, TAL, 3)) rfl rfl) [1, 2] (by decide) rfl [] rfl zY_blind (zY_call hX hS (z_freeT hD hS hA [1, 2] rfl))) rfl rfl hl.1 rfl (lv_room (Nat.le_of_ble_eq_true rfl)) dGR_putCell_84 ⟨Nat.le_of_ble_eq_true rfl, Nat.le_of_ble_eq_true rfl⟩) (fun rad u H locs h_rad hP hD hK hS => ?_)
  obtain ⟨q_2, c_2⟩ := u
  have hP : va_P (dC, dI) vwCl ([zob g 1 [.ref al, .int (nI gr), .int (nI gs), .int (nI bg), .int (nI re), .int (nI 0)], zob al 2 [.ref q_2, .int (nI 1), .int (mo + nI 1)], zob q17 7 [.int (nI 0), .int (nI ((gs + bg) - 1)), .int (nI a_v), .int (nI c_v), .int (nI d_v), .int (nI e_v), .int (nI gw), .int (nI b_v), .int (nI 0), .int (nI 0)], zrf q_2 c_2 10 (va_up (fun _ => none) 0 (some q17))] ++ []) H := zt_sub hP [0, 1, 3, 2] rfl
  have hD : va_D A ([zob g 1 [.ref al, .int (nI gr), .int (nI gs), .int (nI bg), .int (nI re), .int (nI 0)], zob al 2 [.ref q_2, .int (nI 1), .int (mo + nI 1)], zob q17 7 [.int (nI 0), .int (nI ((gs + bg) - 1)), .int (nI a_v), .int (nI c_v), .int (nI d_v), .int (nI e_v), .int (nI gw), .int (nI b_v), .int (nI 0), .int (nI 0)], zrf q_2 c_2 10 (va_up (fun _ => none) 0 (some q17))] ++ []) := zt_subD hD [0, 1, 3, 2] (by decide) rfl
  have hK : va_K (dC, dI) vwCl [(c_2, .object "java/lang/Object")] s := hK
  refine W.widen (k := 2) (n := 20) (Nat.le_of_ble_eq_true rfl) (Nat.le_of_ble_eq_true rfl) ?_
  have h_rad : rad = 1 := h_rad
  subst h_rad
  refine lv_pop hx hb dGR_putCell_87 rfl ?_
  refine lv_aload_n hx hb dGR_putCell_88 rfl (lv_at hl 2 rfl) ?_
  refine lv_aload_n hx hb dGR_putCell_89 rfl (lv_at hl 2 rfl) ?_
  refine va_get (D := (dC, dI)) (ci := 1) (v := .int (nI 0)) (C := RGR) (T := TGR) (N := 6) hx hb hz in_GR hown hK hP 0 rfl rfl 5 (by decide) (hz _ wd_90) (fun _ h9 => h9) rfl dGR_putCell_90 ?_
  refine lv_iload hx hb dGR_putCell_93 (lv_at hl 0 rfl) ?_
  refine lv_iload_n hx hb dGR_putCell_95 rfl (lv_at hl 3 rfl) ?_
  refine lv_iadd hx hb dGR_putCell_96 ?_
  refine lv_topi (fun x18 e19 => ?_)
  have e19 : x18 = nI (0 + a_v) := e19.trans (nI_add _ _)
  subst e19
  refine va_mmax hx hb (hml.trans hl.1.symm) hown (hz _ wd_189) (hz _ wd_190) (hz _ wd_38) (hz _ wd_191) (Nat.le_of_ble_eq_true rfl) (Nat.le_of_ble_eq_true rfl) (Nat.le_of_ble_eq_true rfl) (Nat.le_of_ble_eq_true rfl) dGR_putCell_97 ?_
  refine lv_topi (fun x20 e21 => ?_)
  have e21 : x20 = nI (0 + a_v) := e21.trans (by rw [z_max (by omega) (by omega)]; congr 1; split <;> omega)
  subst e21
  refine va_put (D := (dC, dI)) (ci := 1) (v := .int (nI (0 + a_v))) (ty := .int) (C := RGR) (T := TGR) (N := 6) hx hb hz in_GR tyGR tokGR nokGR hown hK hP hD hS 0 rfl rfl 5 (by decide) (hz _ wd_90) (fun _ h9 => h9) rfl (by decide +kernel) rfl rfl (Nat.le_of_ble_eq_true rfl) dGR_putCell_100 (fun H locs hP hD hS => ?_)
  have hP : va_P (dC, dI) vwCl ([zob g 1 [.ref al, .int (nI gr), .int (nI gs), .int (nI bg), .int (nI re), .int (nI (0 + a_v))], zob al 2 [.ref q_2, .int (nI 1), .int (mo + nI 1)], zob q17 7 [.int (nI 0), .int (nI ((gs + bg) - 1)), .int (nI a_v), .int (nI c_v), .int (nI d_v), .int (nI e_v), .int (nI gw), .int (nI b_v), .int (nI 0), .int (nI 0)], zrf q_2 c_2 10 (va_up (fun _ => none) 0 (some q17))] ++ []) H := hP
  have hD : va_D A ([zob g 1 [.ref al, .int (nI gr), .int (nI gs), .int (nI bg), .int (nI re), .int (nI (0 + a_v))], zob al 2 [.ref q_2, .int (nI 1), .int (mo + nI 1)], zob q17 7 [.int (nI 0), .int (nI ((gs + bg) - 1)), .int (nI a_v), .int (nI c_v), .int (nI d_v), .int (nI e_v), .int (nI gw), .int (nI b_v), .int (nI 0), .int (nI 0)], zrf q_2 c_2 10 (va_up (fun _ => none) 0 (some q17))] ++ []) := hD
  subst h_gw
  have hP : va_P (dC, dI) vwCl ([zob g 1 [.ref al, .int (nI gr), .int (nI gs), .int (nI bg), .int (nI re), .int (nI (0 + a_v))], zob al 2 [.ref q_2, .int (nI 1), .int (mo + nI 1)], zrf q_2 c_2 10 (va_up (fun _ => none) 0 (some q17)), zob q17 7 [.int (nI 0), .int (nI ((gs + bg) - 1)), .int (nI a_v), .int (nI c_v), .int (nI d_v), .int (nI e_v), .int (nI (if b_v = 0 then 1 else 0)), .int (nI b_v), .int (nI 0), .int (nI 0)]] ++ []) H := zt_sub hP [0, 1, 3, 2] rfl
  have hD : va_D A ([zob g 1 [.ref al, .int (nI gr), .int (nI gs), .int (nI bg), .int (nI re), .int (nI (0 + a_v))], zob al 2 [.ref q_2, .int (nI 1), .int (mo + nI 1)], zrf q_2 c_2 10 (va_up (fun _ => none) 0 (some q17)), zob q17 7 [.int (nI 0), .int (nI ((gs + bg) - 1)), .int (nI a_v), .int (nI c_v), .int (nI d_v), .int (nI e_v), .int (nI (if b_v = 0 then 1 else 0)), .int (nI b_v), .int (nI 0), .int (nI 0)]] ++ []) := zt_subD hD [0, 1, 3, 2] (by decide) rfl
  have hP : va_P (dC, dI) vwCl ([zob g 1 [.ref al, .int (nI gr), .int (nI gs), .int (nI bg), .int (nI re), .int (nI (0 + a_v))], zob al 2 [.ref q_2, .int (nI 1), .int (mo + nI 1)], zrf q_2 c_2 10 (va_up (fun _ => none) 0 (some q17))] ++ ([] ++ [zob q17 7 [.int (nI 0), .int (nI ((gs + bg) - 1)), .int (nI a_v), .int (nI c_v), .int (nI d_v), .int (nI e_v), .int (nI (if b_v = 0 then 1 else 0)), .int (nI b_v), .int (nI 0), .int (nI 0)]])) H := zP_perm (z_pm2 (X := [zob g 1 [.ref al, .int (nI gr), .int (nI gs), .int (nI bg), .int (nI re), .int (nI (0 + a_v))], zob al 2 [.ref q_2, .int (nI 1), .int (mo + nI 1)], zrf q_2 c_2 10 (va_up (fun _ => none) 0 (some q17))]) (q := zob q17 7 [.int (nI 0), .int (nI ((gs + bg) - 1)), .int (nI a_v), .int (nI c_v), .int (nI d_v), .int (nI e_v), .int (nI (if b_v = 0 then 1 else 0)), .int (nI b_v), .int (nI 0), .int (nI 0)])) hP
  have hD : va_D A ([zob g 1 [.ref al, .int (nI gr), .int (nI gs), .int (nI bg), .int (nI re), .int (nI (0 + a_v))], zob al 2 [.ref q_2, .int (nI 1), .int (mo + nI 1)], zrf q_2 c_2 10 (va_up (fun _ => none) 0 (some q17))] ++ ([] ++ [zob q17 7 [.int (nI 0), .int (nI ((gs + bg) - 1)), .int (nI a_v), .int (nI c_v), .int (nI d_v), .int (nI e_v), .int (nI (if b_v = 0 then 1 else 0)), .int (nI b_v), .int (nI 0), .int (nI 0)]])) := zD_perm (z_pm2 (X := [zob g 1 [.ref al, .int (nI gr), .int (nI gs), .int (nI bg), .int (nI re), .int (nI (0 + a_v))], zob al 2 [.ref q_2, .int (nI 1), .int (mo + nI 1)], zrf q_2 c_2 10 (va_up (fun _ => none) 0 (some q17))]) (q := zob q17 7 [.int (nI 0), .int (nI ((gs + bg) - 1)), .int (nI a_v), .int (nI c_v), .int (nI d_v), .int (nI e_v), .int (nI (if b_v = 0 then 1 else 0)), .int (nI b_v), .int (nI 0), .int (nI 0)])) hD
  have e_z : zcs 1 (va_up (fun _ => 0) 0 q17) (zcf (zpu (fun _ _ => 0) 0 (zrec 0 ((gs + bg) - 1) a_v c_v d_v e_v (if b_v = 0 then 1 else 0) b_v 0 0))) = zcs 0 (fun _ => 0) (zcf (fun _ _ => 0)) ++ [zob q17 7 [.int (nI 0), .int (nI ((gs + bg) - 1)), .int (nI a_v), .int (nI c_v), .int (nI d_v), .int (nI e_v), .int (nI (if b_v = 0 then 1 else 0)), .int (nI b_v), .int (nI 0), .int (nI 0)]] := zcs_push (n := 0)
  have hP : va_P (dC, dI) vwCl ([zob g 1 [.ref al, .int (nI gr), .int (nI gs), .int (nI bg), .int (nI re), .int (nI (0 + a_v))], zob al 2 [.ref q_2, .int (nI 1), .int (mo + nI 1)], zrf q_2 c_2 10 (va_up (fun _ => none) 0 (some q17))] ++ zcs 1 (va_up (fun _ => 0) 0 q17) (zcf (zpu (fun _ _ => 0) 0 (zrec 0 ((gs + bg) - 1) a_v c_v d_v e_v (if b_v = 0 then 1 else 0) b_v 0 0)))) H := by rw [e_z]; exact hP
  have hD : va_D A ([zob g 1 [.ref al, .int (nI gr), .int (nI gs), .int (nI bg), .int (nI re), .int (nI (0 + a_v))], zob al 2 [.ref q_2, .int (nI 1), .int (mo + nI 1)], zrf q_2 c_2 10 (va_up (fun _ => none) 0 (some q17))] ++ zcs 1 (va_up (fun _ => 0) 0 q17) (zcf (zpu (fun _ _ => 0) 0 (zrec 0 ((gs + bg) - 1) a_v c_v d_v e_v (if b_v = 0 then 1 else 0) b_v 0 0)))) := by rw [e_z]; exact hD
  refine lv_aload_n hx hb dGR_putCell_103 rfl (lv_at hl 2 rfl) ?_
  refine lv_iload hx hb dGR_putCell_104 (lv_at hl 1 rfl) ?_
  refine lv_iload_n hx hb dGR_putCell_106 rfl (lv_at hl 4 rfl) ?_
  refine lv_iadd hx hb dGR_putCell_107 ?_
  refine lv_topi (fun x22 e23 => ?_)
  have e23 : x22 = nI (((gs + bg) - 1) + b_v) := e23.trans (nI_add _ _)
  subst e23
  refine zw_callTv (wr := []) hK hP hD hS hA [0, 1, 2] [] rfl rfl (by decide) (by decide) (va_runV (As := [.int (nI (((gs + bg) - 1) + b_v))]) (rest := []) ⟨hx, hb, hml, hown, hz⟩ ((f_GR_extendGroupTo l dC dI g gr gs bg re (0 + a_v) al q_2 c_2 10 (va_up (fun _ => none) 0 (some q17)) (mo + nI 1) 1 (va_up (fun _ => 0) 0 q17) (zpu (fun _ _ => 0) 0 (zrec 0 ((gs + bg) - 1) a_v c_v d_v e_v (if b_v = 0 then 1 else 0) b_v 0 0)) (((gs + bg) - 1) + b_v) (if re < gs + bg - 1 + b_v then gs + bg - 1 + b_v else re) (by omega) (by omega) (z_addk (fun k h9 => absurd h9 (Nat.not_lt_zero _))) (zpu_le (fun j k h9 => absurd h9 (Nat.not_lt_zero _)) (zrec_le ⟨by omega, by omega, by omega, by omega, by omega, by omega, by omega, by omega, by omega, by omega⟩)) (by omega) (by omega) (zpu_top (fun k h9 => absurd h9 (Nat.not_lt_zero _)) (by show gs + bg - 1 ≤ _; omega)) (rfl)) H.size) (cwV 1 hz (z_gV wd_185 wd_187 wd_0 wd_30 wd_188) rfl rfl rfl (by decide +kernel) ⟨Nat.le_of_ble_eq_true rfl, Nat.le_of_ble_eq_true rfl⟩) (zw_preVT hK hP hD (va_recv (q0 := 0) hK hP (q := (RGR, TGR, 6)) rfl rfl) [0, 1, 2] (by decide) rfl [0] rfl z_true (fun _ _ _ => trivial)) rfl rfl hl.1 rfl (lv_room (Nat.le_of_ble_eq_true rfl)) dGR_putCell_108 ⟨Nat.le_of_ble_eq_true rfl, Nat.le_of_ble_eq_true rfl⟩) (fun u H locs h_r24 hP hD hK hS => ?_)
  have hP : va_P (dC, dI) vwCl ([zob g 1 [.ref al, .int (nI gr), .int (nI gs), .int (nI bg), .int (nI (if re < gs + bg - 1 + b_v then gs + bg - 1 + b_v else re)), .int (nI (0 + a_v))], zob al 2 [.ref q_2, .int (nI 1), .int (mo + nI 1)], zrf q_2 c_2 10 (va_up (fun _ => none) 0 (some q17))] ++ zcs 1 (va_up (fun _ => 0) 0 q17) (zcf (zGw (zpu (fun _ _ => 0) 0 (zrec 0 ((gs + bg) - 1) a_v c_v d_v e_v (if b_v = 0 then 1 else 0) b_v 0 0)) 1 gs (if re < gs + bg - 1 + b_v then gs + bg - 1 + b_v else re)))) H := zt_sub hP [0, 1, 2] rfl
  have hD : va_D A ([zob g 1 [.ref al, .int (nI gr), .int (nI gs), .int (nI bg), .int (nI (if re < gs + bg - 1 + b_v then gs + bg - 1 + b_v else re)), .int (nI (0 + a_v))], zob al 2 [.ref q_2, .int (nI 1), .int (mo + nI 1)], zrf q_2 c_2 10 (va_up (fun _ => none) 0 (some q17))] ++ zcs 1 (va_up (fun _ => 0) 0 q17) (zcf (zGw (zpu (fun _ _ => 0) 0 (zrec 0 ((gs + bg) - 1) a_v c_v d_v e_v (if b_v = 0 then 1 else 0) b_v 0 0)) 1 gs (if re < gs + bg - 1 + b_v then gs + bg - 1 + b_v else re)))) := zt_subD hD [0, 1, 2] (by decide) rfl
  have hK : va_K (dC, dI) vwCl [(c_2, .object "java/lang/Object")] s := hK
  refine lv_aload_n hx hb dGR_putCell_111 rfl (lv_at hl 2 rfl) ?_
  refine va_get (D := (dC, dI)) (ci := 1) (v := .ref al) (C := RGR) (T := TGR) (N := 6) hx hb hz in_GR hown hK hP 0 rfl rfl 0 (by decide) (hz _ wd_85) (fun _ h9 => h9) rfl dGR_putCell_112 ?_
  refine vp_callSi (W.runV (As := []) (rest := []) ⟨hx, hb, hml, hown, hz⟩ (f_AL_size l dC dI al q_2 (mo + nI 1) 1 ) (cwV 0 hz (z_gV wd_192 wd_193 wd_194 wd_33 wd_195) rfl rfl rfl (by decide +kernel) ⟨Nat.le_of_ble_eq_true rfl, Nat.le_of_ble_eq_true rfl⟩) (zr_preV hK (hP.sub [1] rfl) (va_recv (q0 := 1) hK hP (q := (RAL, TAL, 3)) rfl rfl) [] rfl z_true (fun _ _ _ => trivial)) rfl rfl hl.1 rfl (lv_room (Nat.le_of_ble_eq_true rfl)) dGR_putCell_115 ⟨Nat.le_of_ble_eq_true rfl, Nat.le_of_ble_eq_true rfl⟩) (fun r25 h_r25 => ?_)
  have h_r25 : r25 = nI 1 := h_r25
  subst h_r25
  refine lv_iconst (v := nI 1) hx hb dGR_putCell_118 (by decide) ?_
  refine lv_isub hx hb dGR_putCell_119 ?_
  refine lv_topi (fun x26 e27 => ?_)
  have e27 : x26 = nI 0 := e27.trans (by decide)
  subst e27
  refine W.widen (k := 2) (n := 68) (Nat.le_of_ble_eq_true rfl) (Nat.le_of_ble_eq_true rfl) ?_
  subst hQ
  exact zw_iret (D := (dC, dI)) (cl := vwCl) (A := A) (q_2, c_2, q17) hx hb hr hlocks (rfl) (zt_sub hP [0, 1, 2] rfl) (hK.sub [0] rfl) (zt_subD hD [0, 1, 2] (by decide) rfl) hS dGR_putCell_120
