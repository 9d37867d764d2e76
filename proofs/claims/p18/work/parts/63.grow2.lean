set_option maxHeartbeats 4000000 in
set_option maxRecDepth 100000 in
theorem f_AL_grow_22 (l : Launch) (dC : Nat → ClassId) (dI : Nat → Nat → Nat) (al : Nat) (ed : Nat) (cE : ClassId) (a : Nat → Option Nat) (n : Nat) (ad : Nat → Nat) (d : Nat → Nat → Nat) (mo : Int32) (mi : Nat) (ha : ∀ k, k < n → a k = some (ad k)) (hn2 : 2 ≤ n ∧ n < 40) : zw_Mr (S := (Nat) × (ClassId) × (Nat → Option Nat)) l yAL_grow_22 wAL_grow_22 ({ frames := 3, cells := 1, slots := 58, locals := 62 }) [.ref al, .int (nI (n + 1))] (dC, dI) vwCl ([zob al 2 [.ref ed, .int (nI n), .int mo], zrf ed cE n a] ++ zcs n ad (zcf d)) [(cE, .object "java/lang/Object")] (fun _ => zG0 mi) (fun u => match u with | (q2, c2, a2) => ∀ k, k < n → a2 k = a k) (fun u => match u with | (q2, c2, a2) => ([zob al 2 [.ref q2, .int (nI n), .int mo], zrf q2 c2 (n + n / 2) a2] ++ zcs n ad (zcf d))) (fun u => match u with | (q2, c2, a2) => [(c2, .object "java/lang/Object")]) (fun u => match u with | (q2, c2, a2) => q2) 1 58 := by
  refine zw_headr (cc := cAL_grow_22) (maxL := 4) (ret := (some (.array (.object "java/lang/Object")))) (by decide +kernel) rfl (Nat.le_of_ble_eq_true rfl) ?_
  intro p e s m below meth c ls A F hA hP hK hD hS hX hl
  obtain ⟨hx, hb, hml, hr, hlocks, hown, hts⟩ := F
  have hown : s.vm.findClass "java/util/ArrayList" = some m.cls := hown
  have hz : ∀ w9 ∈ zT, w9.before [.ref al, .int (nI (n + 1))].toArray s = true := fun w9 h => hts w9 (List.mem_cons_of_mem _ h)
  have hl : lv_has ls 4 [(0, .ref al), (1, .int (nI (n + 1)))] := hl
  have hN := hX.1
  refine z_q (fun Q hQ => ?_)
  refine lv_aload_n hx hb dAL_grow_22_0 rfl (lv_at hl 0 rfl) ?_
  refine va_get (D := (dC, dI)) (ci := 2) (v := .ref ed) (C := RAL) (T := TAL) (N := 3) hx hb hz in_AL hown hK hP 0 rfl rfl 0 (by decide) (hz _ wd_73) (fun _ h9 => h9) rfl dAL_grow_22_1 ?_
  refine va_alen (v := nI n) hx hb hK hP 1 0 rfl rfl rfl dAL_grow_22_4 ?_
  refine lv_istore_n hx hb dAL_grow_22_5 rfl hl (Nat.le_of_ble_eq_true rfl) rfl (fun ls hl => ?_)
  have hl : lv_has ls 4 [(2, .int (nI n)), (0, .ref al), (1, .int (nI (n + 1)))] := hl
  refine lv_iload_n hx hb dAL_grow_22_6 rfl (lv_at hl 0 rfl) ?_
  have t1 := nI_toInt (n := n) (by omega)
  have t2 : (0 : Int32).toInt = 0 := by decide
  refine lv_if_gt (tgt := 20) hx hb dAL_grow_22_7 rfl (fun _ => ?_) (fun h => by have h := z_nlt h; omega)
  refine lv_iload_n hx hb dAL_grow_22_20 rfl (lv_at hl 0 rfl) ?_
  refine lv_iload_n hx hb dAL_grow_22_21 rfl (lv_at hl 2 rfl) ?_
  refine lv_iload_n hx hb dAL_grow_22_22 rfl (lv_at hl 0 rfl) ?_
  refine lv_isub hx hb dAL_grow_22_23 ?_
  refine lv_topi (fun x3 e4 => ?_)
  have e4 : x3 = nI ((n + 1) - n) := e4.trans (pk_sub (by omega))
  subst e4
  refine lv_iload_n hx hb dAL_grow_22_24 rfl (lv_at hl 0 rfl) ?_
  refine lv_iconst (v := nI 1) hx hb dAL_grow_22_25 (by decide) ?_
  refine lv_ishr hx hb dAL_grow_22_26 ?_
  refine lv_topi (fun x5 e6 => ?_)
  have e6 : x5 = nI (n / 2) := e6.trans (by have k9 := pk_shrN (n := n) (by omega) (nI 1 &&& 31) 1 (by decide); rw [Nat.pow_one] at k9; exact k9)
  subst e6
  refine vp_callSi (W.runS (As := [.int (nI n), .int (nI ((n + 1) - n)), .int (nI (n / 2))]) (rest := []) ⟨hx, hb, hml, hown, hz⟩ (f_AS_newLength l dC dI n ((n + 1) - n) (n / 2) (by omega) (by omega) (by omega)) (va_cwS 3 hz (z_gS wd_314 wd_315 wd_42 wd_316) rfl rfl rfl (by decide +kernel) ⟨Nat.le_of_ble_eq_true rfl, Nat.le_of_ble_eq_true rfl⟩) (zr_preS hK (hP.sub [] rfl) [] rfl z_true (fun _ _ _ => trivial)) rfl rfl hl.1 rfl (lv_room (Nat.le_of_ble_eq_true rfl)) dAL_grow_22_27 ⟨Nat.le_of_ble_eq_true rfl, Nat.le_of_ble_eq_true rfl⟩) (fun r7 h_r7 => ?_)
  have h_r7 : r7 = nI (n + (n / 2)) := h_r7
  subst h_r7
  refine lv_istore_n hx hb dAL_grow_22_30 rfl hl (Nat.le_of_ble_eq_true rfl) rfl (fun ls hl => ?_)
  have hl : lv_has ls 4 [(3, .int (nI (n + (n / 2)))), (2, .int (nI n)), (0, .ref al), (1, .int (nI (n + 1)))] := hl
  refine lv_aload_n hx hb dAL_grow_22_31 rfl (lv_at hl 2 rfl) ?_
  refine lv_aload_n hx hb dAL_grow_22_32 rfl (lv_at hl 2 rfl) ?_
  refine va_get (D := (dC, dI)) (ci := 2) (v := .ref ed) (C := RAL) (T := TAL) (N := 3) hx hb hz in_AL hown hK hP 0 rfl rfl 0 (by decide) (hz _ wd_73) (fun _ h9 => h9) rfl dAL_grow_22_33 ?_
  refine lv_iload_n hx hb dAL_grow_22_36 rfl (lv_at hl 0 rfl) ?_
  refine zw_callTr (wr := [zob al 2 [.ref ed, .int (nI n), .int mo]]) hK hP hD hS hA [1] [0] rfl rfl (by decide) (by decide) (va_runS (As := [.ref ed, .int (nI (n + (n / 2)))]) (rest := [.ref al]) ⟨hx, hb, hml, hown, hz⟩ ((f_AR_copyOf l dC dI ed cE a n ad d (n + (n / 2)) mi (ha) (by omega)) s.heap.size) (va_cwS 2 hz (z_gS wd_322 wd_323 wd_43 wd_324) rfl rfl rfl (by decide +kernel) ⟨Nat.le_of_ble_eq_true rfl, Nat.le_of_ble_eq_true rfl⟩) (zw_preST hK hP hD [1] (by decide) rfl [0] rfl zG0_blind (zG0_call hX)) rfl rfl hl.1 rfl (lv_room (Nat.le_of_ble_eq_true rfl)) dAL_grow_22_37 ⟨Nat.le_of_ble_eq_true rfl, Nat.le_of_ble_eq_true rfl⟩) (fun u H locs h_rc hP hD hK hS => ?_)
  obtain ⟨q_2, c_2, a_2⟩ := u
  have hP : va_P (dC, dI) vwCl ([zob al 2 [.ref ed, .int (nI n), .int mo], zrf ed cE n a, zrf q_2 c_2 (n + (n / 2)) a_2] ++ zcs n ad (zcf d)) H := zt_sub hP [0, 1, 2] rfl
  have hD : va_D A ([zob al 2 [.ref ed, .int (nI n), .int mo], zrf ed cE n a, zrf q_2 c_2 (n + (n / 2)) a_2] ++ zcs n ad (zcf d)) := zt_subD hD [0, 1, 2] (by decide) rfl
  have hK : va_K (dC, dI) vwCl [(cE, .object "java/lang/Object"), (c_2, .object "java/lang/Object")] s := hK
  refine W.widen (k := 1) (n := 58) (Nat.le_of_ble_eq_true rfl) (Nat.le_of_ble_eq_true rfl) ?_
  refine W.eq (g2 := F0 m 40 ls [.ref q_2, .ref al]) rfl ?_
  have h_rc : ∀ k, k < n → a_2 k = a k := h_rc
  refine lv_dup_x1 hx hb dAL_grow_22_40 rfl rfl ?_
  refine va_put (D := (dC, dI)) (ci := 2) (v := .ref q_2) (ty := .array (.object "java/lang/Object")) (C := RAL) (T := TAL) (N := 3) hx hb hz in_AL tyAL tokAL nokAL hown hK hP hD hS 0 rfl rfl 0 (by decide) (hz _ wd_73) (fun _ h9 => h9) rfl (by decide +kernel) rfl rfl (Nat.le_of_ble_eq_true rfl) dAL_grow_22_41 (fun H locs hP hD hS => ?_)
  have hP : va_P (dC, dI) vwCl ([zob al 2 [.ref q_2, .int (nI n), .int mo], zrf ed cE n a, zrf q_2 c_2 (n + (n / 2)) a_2] ++ zcs n ad (zcf d)) H := hP
  have hD : va_D A ([zob al 2 [.ref q_2, .int (nI n), .int mo], zrf ed cE n a, zrf q_2 c_2 (n + (n / 2)) a_2] ++ zcs n ad (zcf d)) := hD
  subst hQ
  exact zw_aret (D := (dC, dI)) (cl := vwCl) (A := A) (q_2, c_2, a_2) hx hb hr (Or.inr ⟨_, rfl⟩) hlocks (rfl) (h_rc) (zt_sub hP [0, 2] rfl) (hK.sub [1] rfl) (zt_subD hD [0, 2] (by decide) rfl) hS dAL_grow_22_44

set_option maxHeartbeats 4000000 in
set_option maxRecDepth 100000 in
theorem f_AL_grow (l : Launch) (dC : Nat → ClassId) (dI : Nat → Nat → Nat) (al : Nat) (ed : Nat) (cE : ClassId) (a : Nat → Option Nat) (n : Nat) (ad : Nat → Nat) (d : Nat → Nat → Nat) (mo : Int32) (mi : Nat) (ha : ∀ k, k < n → a k = some (ad k)) (hn2 : 2 ≤ n ∧ n < 40) : zw_Mr (S := (Nat) × (ClassId) × (Nat → Option Nat)) l yAL_grow wAL_grow ({ frames := 4, cells := 1, slots := 58, locals := 85 }) [.ref al] (dC, dI) vwCl ([zob al 2 [.ref ed, .int (nI n), .int mo], zrf ed cE n a] ++ zcs n ad (zcf d)) [(cE, .object "java/lang/Object")] (fun _ => zG0 mi) (fun u => match u with | (q2, c2, a2) => ∀ k, k < n → a2 k = a k) (fun u => match u with | (q2, c2, a2) => ([zob al 2 [.ref q2, .int (nI n), .int mo], zrf q2 c2 (n + n / 2) a2] ++ zcs n ad (zcf d))) (fun u => match u with | (q2, c2, a2) => [(c2, .object "java/lang/Object")]) (fun u => match u with | (q2, c2, a2) => q2) 1 58 := by
  refine zw_headr (cc := cAL_grow) (maxL := 1) (ret := (some (.array (.object "java/lang/Object")))) (by decide +kernel) rfl (Nat.le_of_ble_eq_true rfl) ?_
  intro p e s m below meth c ls A F hA hP hK hD hS hX hl
  obtain ⟨hx, hb, hml, hr, hlocks, hown, hts⟩ := F
  have hown : s.vm.findClass "java/util/ArrayList" = some m.cls := hown
  have hz : ∀ w9 ∈ zT, w9.before [.ref al].toArray s = true := fun w9 h => hts w9 (List.mem_cons_of_mem _ h)
  have hl : lv_has ls 1 [(0, .ref al)] := hl
  have hN := hX.1
  refine z_q (fun Q hQ => ?_)
  refine lv_aload_n hx hb dAL_grow_0 rfl (lv_at hl 0 rfl) ?_
  refine lv_aload_n hx hb dAL_grow_1 rfl (lv_at hl 0 rfl) ?_
  refine va_get (D := (dC, dI)) (ci := 2) (v := .int (nI n)) (C := RAL) (T := TAL) (N := 3) hx hb hz in_AL hown hK hP 0 rfl rfl 1 (by decide) (hz _ wd_74) (fun _ h9 => h9) rfl dAL_grow_2 ?_
  refine lv_iconst (v := nI 1) hx hb dAL_grow_5 (by decide) ?_
  refine lv_iadd hx hb dAL_grow_6 ?_
  refine lv_topi (fun x1 e2 => ?_)
  have e2 : x1 = nI (n + 1) := e2.trans (nI_add _ _)
  subst e2
  refine zw_callTr (wr := []) hK hP hD hS hA [0, 1] [] rfl rfl (by decide) (by decide) (va_runV (As := [.int (nI (n + 1))]) (rest := []) ⟨hx, hb, hml, hown, hz⟩ ((f_AL_grow_22 l dC dI al ed cE a n ad d mo mi (ha) (hn2)) s.heap.size) (cwV 1 hz (z_gV wd_310 wd_312 wd_4 wd_33 wd_313) rfl rfl rfl (by decide +kernel) ⟨Nat.le_of_ble_eq_true rfl, Nat.le_of_ble_eq_true rfl⟩) (zw_preVT hK hP hD (va_recv (q0 := 0) hK hP (q := (RAL, TAL, 3)) rfl rfl) [0, 1] (by decide) rfl [0] rfl zG0_blind (zG0_call hX)) rfl rfl hl.1 rfl (lv_room (Nat.le_of_ble_eq_true rfl)) dAL_grow_7 ⟨Nat.le_of_ble_eq_true rfl, Nat.le_of_ble_eq_true rfl⟩) (fun u H locs h_rc hP hD hK hS => ?_)
  obtain ⟨q_2, c_2, a_2⟩ := u
  have hP : va_P (dC, dI) vwCl ([zob al 2 [.ref q_2, .int (nI n), .int mo], zrf q_2 c_2 (n + n / 2) a_2] ++ zcs n ad (zcf d)) H := zt_sub hP [0, 1] rfl
  have hD : va_D A ([zob al 2 [.ref q_2, .int (nI n), .int mo], zrf q_2 c_2 (n + n / 2) a_2] ++ zcs n ad (zcf d)) := zt_subD hD [0, 1] (by decide) rfl
  have hK : va_K (dC, dI) vwCl [(cE, .object "java/lang/Object"), (c_2, .object "java/lang/Object")] s := hK
  refine W.widen (k := 1) (n := 58) (Nat.le_of_ble_eq_true rfl) (Nat.le_of_ble_eq_true rfl) ?_
  refine W.eq (g2 := F0 m 10 ls [.ref q_2]) rfl ?_
  have h_rc : ∀ k, k < n → a_2 k = a k := h_rc
  subst hQ
  exact zw_aret (D := (dC, dI)) (cl := vwCl) (A := A) (q_2, c_2, a_2) hx hb hr (Or.inr ⟨_, rfl⟩) hlocks (rfl) (h_rc) (zt_sub hP [0, 1] rfl) (hK.sub [1] rfl) (zt_subD hD [0, 1] (by decide) rfl) hS dAL_grow_10

set_option maxHeartbeats 4000000 in
set_option maxRecDepth 100000 in
theorem g_AL_add_41 (l : Launch) (dC : Nat → ClassId) (dI : Nat → Nat → Nat) (al : Nat) (ed : Nat) (cE : ClassId) (cap : Nat) (a : Nat → Option Nat) (mo : Int32) (n : Nat) (ad : Nat → Nat) (d : Nat → Nat → Nat) (x : Nat) (f0 : Nat) (f1 : Nat) (f2 : Nat) (f3 : Nat) (f4 : Nat) (f5 : Nat) (f6 : Nat) (f7 : Nat) (f8 : Nat) (f9 : Nat) (mi : Nat) (ha : ∀ k, k < n → a k = some (ad k)) (hn : n ≤ cap ∧ 2 ≤ cap ∧ cap ≤ 58 ∧ n < 40) : zw_Mv (S := (Nat) × (ClassId) × (Nat) × (Nat → Option Nat)) l yAL_add_41 wAL_add_41 ({ frames := 5, cells := 1, slots := 58, locals := 105 }) [.ref al, .ref x, .ref ed, .int (nI n)] (dC, dI) vwCl ([zob al 2 [.ref ed, .int (nI n), .int mo], zrf ed cE cap a, zob x 7 [.int (nI f0), .int (nI f1), .int (nI f2), .int (nI f3), .int (nI f4), .int (nI f5), .int (nI f6), .int (nI f7), .int (nI f8), .int (nI f9)]] ++ zcs n ad (zcf d)) [(cE, .object "java/lang/Object")] (fun _ => zG0 mi) (fun u => match u with | (ed2, cE2, cap2, a2) => n < cap2 ∧ 2 ≤ cap2 ∧ cap2 ≤ 58 ∧ ∀ k, k < n + 1 → a2 k = some (va_up ad n x k)) (fun u => match u with | (ed2, cE2, cap2, a2) => ([zob al 2 [.ref ed2, .int (nI (n + 1)), .int mo], zrf ed2 cE2 cap2 a2, zob x 7 [.int (nI f0), .int (nI f1), .int (nI f2), .int (nI f3), .int (nI f4), .int (nI f5), .int (nI f6), .int (nI f7), .int (nI f8), .int (nI f9)]] ++ zcs n ad (zcf d))) (fun u => match u with | (ed2, cE2, cap2, a2) => [(cE2, .object "java/lang/Object")]) 1 58 := by
  refine zw_headv (cc := cAL_add_41) (maxL := 4) (ret := none) (by decide +kernel) rfl (Nat.le_of_ble_eq_true rfl) ?_
  intro p e s m below meth c ls A F hnm hA hP hK hD hS hX hl
  obtain ⟨hx, hb, hml, hr, hlocks, hown, hts⟩ := F
  have hown : s.vm.findClass "java/util/ArrayList" = some m.cls := hown
  have hz : ∀ w9 ∈ zT, w9.before [.ref al, .ref x, .ref ed, .int (nI n)].toArray s = true := fun w9 h => hts w9 (List.mem_cons_of_mem _ h)
  have hl : lv_has ls 4 [(0, .ref al), (1, .ref x), (2, .ref ed), (3, .int (nI n))] := hl
  have hN := hX.1
  refine z_q (fun Q hQ => ?_)
  refine lv_iload_n hx hb dAL_add_41_0 rfl (lv_at hl 3 rfl) ?_
  refine lv_aload_n hx hb dAL_add_41_1 rfl (lv_at hl 2 rfl) ?_
  refine va_alen (v := nI cap) hx hb hK hP 1 0 rfl rfl rfl dAL_add_41_2 ?_
  have t1 := nI_toInt (n := n) (by omega)
  have t2 := nI_toInt (n := cap) (by omega)
  refine lv_icmp_ne (tgt := 11) hx hb dAL_add_41_3 rfl (fun h1 => ?_) (fun h1 => ?_)
  · have h1 := z_ne h1
    refine lv_aload_n hx hb dAL_add_41_11 rfl (lv_at hl 2 rfl) ?_
    refine lv_iload_n hx hb dAL_add_41_12 rfl (lv_at hl 3 rfl) ?_
    refine lv_aload_n hx hb dAL_add_41_13 rfl (lv_at hl 1 rfl) ?_
    refine va_astqO (r := (RCE, TCE, 10)) hx hb hK hP hD hS 1 0 2 7 rfl rfl hX.2.1 rfl rfl (vp_in_nI (by omega) (by omega)) dAL_add_41_14 (fun H locs hP hD hS => ?_)
    rw [nI_clamp (by omega)] at hP hD
    have hP : va_P (dC, dI) vwCl ([zob al 2 [.ref ed, .int (nI n), .int mo], zrf ed cE cap (va_up a n (some x)), zob x 7 [.int (nI f0), .int (nI f1), .int (nI f2), .int (nI f3), .int (nI f4), .int (nI f5), .int (nI f6), .int (nI f7), .int (nI f8), .int (nI f9)]] ++ zcs n ad (zcf d)) H := hP
    have hD : va_D A ([zob al 2 [.ref ed, .int (nI n), .int mo], zrf ed cE cap (va_up a n (some x)), zob x 7 [.int (nI f0), .int (nI f1), .int (nI f2), .int (nI f3), .int (nI f4), .int (nI f5), .int (nI f6), .int (nI f7), .int (nI f8), .int (nI f9)]] ++ zcs n ad (zcf d)) := hD
    refine lv_aload_n hx hb dAL_add_41_15 rfl (lv_at hl 0 rfl) ?_
    refine lv_iload_n hx hb dAL_add_41_16 rfl (lv_at hl 3 rfl) ?_
    refine lv_iconst (v := nI 1) hx hb dAL_add_41_17 (by decide) ?_
    refine lv_iadd hx hb dAL_add_41_18 ?_
    refine lv_topi (fun x4 e5 => ?_)
    have e5 : x4 = nI (n + 1) := e5.trans (nI_add _ _)
    subst e5
    refine va_put (D := (dC, dI)) (ci := 2) (v := .int (nI (n + 1))) (ty := .int) (C := RAL) (T := TAL) (N := 3) hx hb hz in_AL tyAL tokAL nokAL hown hK hP hD hS 0 rfl rfl 1 (by decide) (hz _ wd_74) (fun _ h9 => h9) rfl (by decide +kernel) rfl rfl (Nat.le_of_ble_eq_true rfl) dAL_add_41_19 (fun H locs hP hD hS => ?_)
    have hP : va_P (dC, dI) vwCl ([zob al 2 [.ref ed, .int (nI (n + 1)), .int mo], zrf ed cE cap (va_up a n (some x)), zob x 7 [.int (nI f0), .int (nI f1), .int (nI f2), .int (nI f3), .int (nI f4), .int (nI f5), .int (nI f6), .int (nI f7), .int (nI f8), .int (nI f9)]] ++ zcs n ad (zcf d)) H := hP
    have hD : va_D A ([zob al 2 [.ref ed, .int (nI (n + 1)), .int mo], zrf ed cE cap (va_up a n (some x)), zob x 7 [.int (nI f0), .int (nI f1), .int (nI f2), .int (nI f3), .int (nI f4), .int (nI f5), .int (nI f6), .int (nI f7), .int (nI f8), .int (nI f9)]] ++ zcs n ad (zcf d)) := hD
    refine W.widen (k := 1) (n := 58) (Nat.le_of_ble_eq_true rfl) (Nat.le_of_ble_eq_true rfl) ?_
    subst hQ
    exact zw_vret (D := (dC, dI)) (cl := vwCl) (A := A) (ed, cE, cap, va_up a n (some x)) hx hb hr hlocks (⟨by omega, by omega, by omega, z_addk ha⟩) (zt_sub hP [0, 1, 2] rfl) (hK.sub [0] rfl) (zt_subD hD [0, 1, 2] (by decide) rfl) hS dAL_add_41_22
  · have h1 := z_eq h1
    have e9 : n = cap := by omega
    subst e9
    refine lv_aload_n hx hb dAL_add_41_6 rfl (lv_at hl 0 rfl) ?_
    refine zw_callTr (wr := [zob x 7 [.int (nI f0), .int (nI f1), .int (nI f2), .int (nI f3), .int (nI f4), .int (nI f5), .int (nI f6), .int (nI f7), .int (nI f8), .int (nI f9)]]) hK hP hD hS hA [0, 1] [2] rfl rfl (by decide) (by decide) (va_runV (As := []) (rest := []) ⟨hx, hb, hml, hown, hz⟩ ((f_AL_grow l dC dI al ed cE a n ad d mo mi (ha) (by omega)) s.heap.size) (cwV 0 hz (z_gV wd_306 wd_308 wd_3 wd_33 wd_309) rfl rfl rfl (by decide +kernel) ⟨Nat.le_of_ble_eq_true rfl, Nat.le_of_ble_eq_true rfl⟩) (zw_preVT hK hP hD (va_recv (q0 := 0) hK hP (q := (RAL, TAL, 3)) rfl rfl) [0, 1] (by decide) rfl [0] rfl zG0_blind (zG0_call hX)) rfl rfl hl.1 rfl (lv_room (Nat.le_of_ble_eq_true rfl)) dAL_add_41_7 ⟨Nat.le_of_ble_eq_true rfl, Nat.le_of_ble_eq_true rfl⟩) (fun u H locs h_rc hP hD hK hS => ?_)
    obtain ⟨q_2, c_2, a_2⟩ := u
    have hP : va_P (dC, dI) vwCl ([zob al 2 [.ref q_2, .int (nI n), .int mo], zob x 7 [.int (nI f0), .int (nI f1), .int (nI f2), .int (nI f3), .int (nI f4), .int (nI f5), .int (nI f6), .int (nI f7), .int (nI f8), .int (nI f9)], zrf q_2 c_2 (n + n / 2) a_2] ++ zcs n ad (zcf d)) H := zt_sub hP [1, 0, 2] rfl
    have hD : va_D A ([zob al 2 [.ref q_2, .int (nI n), .int mo], zob x 7 [.int (nI f0), .int (nI f1), .int (nI f2), .int (nI f3), .int (nI f4), .int (nI f5), .int (nI f6), .int (nI f7), .int (nI f8), .int (nI f9)], zrf q_2 c_2 (n + n / 2) a_2] ++ zcs n ad (zcf d)) := zt_subD hD [1, 0, 2] (by decide) rfl
    have hK : va_K (dC, dI) vwCl [(cE, .object "java/lang/Object"), (c_2, .object "java/lang/Object")] s := hK
    refine W.widen (k := 1) (n := 58) (Nat.le_of_ble_eq_true rfl) (Nat.le_of_ble_eq_true rfl) ?_
    refine W.eq (g2 := F0 m 10 ls [.ref q_2]) rfl ?_
    have h_rc : ∀ k, k < n → a_2 k = a k := h_rc
    refine lv_astore_n hx hb dAL_add_41_10 rfl hl (Nat.le_of_ble_eq_true rfl) rfl (fun ls hl => ?_)
    have hl : lv_has ls 4 [(2, .ref q_2), (0, .ref al), (1, .ref x), (3, .int (nI n))] := hl
    refine lv_aload_n hx hb dAL_add_41_11 rfl (lv_at hl 0 rfl) ?_
    refine lv_iload_n hx hb dAL_add_41_12 rfl (lv_at hl 3 rfl) ?_
    refine lv_aload_n hx hb dAL_add_41_13 rfl (lv_at hl 2 rfl) ?_
    refine va_astqO (r := (RCE, TCE, 10)) hx hb hK hP hD hS 2 1 1 7 rfl rfl hX.2.1 rfl rfl (vp_in_nI (by omega) (by omega)) dAL_add_41_14 (fun H locs hP hD hS => ?_)
    rw [nI_clamp (by omega)] at hP hD
    have hP : va_P (dC, dI) vwCl ([zob al 2 [.ref q_2, .int (nI n), .int mo], zob x 7 [.int (nI f0), .int (nI f1), .int (nI f2), .int (nI f3), .int (nI f4), .int (nI f5), .int (nI f6), .int (nI f7), .int (nI f8), .int (nI f9)], zrf q_2 c_2 (n + n / 2) (va_up a_2 n (some x))] ++ zcs n ad (zcf d)) H := hP
    have hD : va_D A ([zob al 2 [.ref q_2, .int (nI n), .int mo], zob x 7 [.int (nI f0), .int (nI f1), .int (nI f2), .int (nI f3), .int (nI f4), .int (nI f5), .int (nI f6), .int (nI f7), .int (nI f8), .int (nI f9)], zrf q_2 c_2 (n + n / 2) (va_up a_2 n (some x))] ++ zcs n ad (zcf d)) := hD
    refine lv_aload_n hx hb dAL_add_41_15 rfl (lv_at hl 1 rfl) ?_
    refine lv_iload_n hx hb dAL_add_41_16 rfl (lv_at hl 3 rfl) ?_
    refine lv_iconst (v := nI 1) hx hb dAL_add_41_17 (by decide) ?_
    refine lv_iadd hx hb dAL_add_41_18 ?_
    refine lv_topi (fun x6 e7 => ?_)
    have e7 : x6 = nI (n + 1) := e7.trans (nI_add _ _)
    subst e7
    refine va_put (D := (dC, dI)) (ci := 2) (v := .int (nI (n + 1))) (ty := .int) (C := RAL) (T := TAL) (N := 3) hx hb hz in_AL tyAL tokAL nokAL hown hK hP hD hS 0 rfl rfl 1 (by decide) (hz _ wd_74) (fun _ h9 => h9) rfl (by decide +kernel) rfl rfl (Nat.le_of_ble_eq_true rfl) dAL_add_41_19 (fun H locs hP hD hS => ?_)
    have hP : va_P (dC, dI) vwCl ([zob al 2 [.ref q_2, .int (nI (n + 1)), .int mo], zob x 7 [.int (nI f0), .int (nI f1), .int (nI f2), .int (nI f3), .int (nI f4), .int (nI f5), .int (nI f6), .int (nI f7), .int (nI f8), .int (nI f9)], zrf q_2 c_2 (n + n / 2) (va_up a_2 n (some x))] ++ zcs n ad (zcf d)) H := hP
    have hD : va_D A ([zob al 2 [.ref q_2, .int (nI (n + 1)), .int mo], zob x 7 [.int (nI f0), .int (nI f1), .int (nI f2), .int (nI f3), .int (nI f4), .int (nI f5), .int (nI f6), .int (nI f7), .int (nI f8), .int (nI f9)], zrf q_2 c_2 (n + n / 2) (va_up a_2 n (some x))] ++ zcs n ad (zcf d)) := hD
    subst hQ
    exact zw_vret (D := (dC, dI)) (cl := vwCl) (A := A) (q_2, c_2, n + n / 2, va_up a_2 n (some x)) hx hb hr hlocks (⟨by omega, by omega, by omega, z_addk (fun k hk => (h_rc k hk).trans (ha k hk))⟩) (zt_sub hP [0, 2, 1] rfl) (hK.sub [1] rfl) (zt_subD hD [0, 2, 1] (by decide) rfl) hS dAL_add_41_22

set_option maxHeartbeats 4000000 in
set_option maxRecDepth 100000 in
theorem g_AL_add (l : Launch) (dC : Nat → ClassId) (dI : Nat → Nat → Nat) (al : Nat) (ed : Nat) (cE : ClassId) (cap : Nat) (a : Nat → Option Nat) (mo : Int32) (n : Nat) (ad : Nat → Nat) (d : Nat → Nat → Nat) (x : Nat) (f0 : Nat) (f1 : Nat) (f2 : Nat) (f3 : Nat) (f4 : Nat) (f5 : Nat) (f6 : Nat) (f7 : Nat) (f8 : Nat) (f9 : Nat) (mi : Nat) (ha : ∀ k, k < n → a k = some (ad k)) (hn : n ≤ cap ∧ 2 ≤ cap ∧ cap ≤ 58 ∧ n < 40) : zw_Mi (S := (Nat) × (ClassId) × (Nat) × (Nat → Option Nat)) l yAL_add wAL_add ({ frames := 6, cells := 1, slots := 58, locals := 128 }) [.ref al, .ref x] (dC, dI) vwCl ([zob al 2 [.ref ed, .int (nI n), .int mo], zrf ed cE cap a, zob x 7 [.int (nI f0), .int (nI f1), .int (nI f2), .int (nI f3), .int (nI f4), .int (nI f5), .int (nI f6), .int (nI f7), .int (nI f8), .int (nI f9)]] ++ zcs n ad (zcf d)) [(cE, .object "java/lang/Object")] (fun _ => zG0 mi) (fun r u => match u with | (ed2, cE2, cap2, a2) => r = 1 ∧ n < cap2 ∧ 2 ≤ cap2 ∧ cap2 ≤ 58 ∧ ∀ k, k < n + 1 → a2 k = some (va_up ad n x k)) (fun u => match u with | (ed2, cE2, cap2, a2) => ([zob al 2 [.ref ed2, .int (nI (n + 1)), .int (mo + nI 1)], zrf ed2 cE2 cap2 a2, zob x 7 [.int (nI f0), .int (nI f1), .int (nI f2), .int (nI f3), .int (nI f4), .int (nI f5), .int (nI f6), .int (nI f7), .int (nI f8), .int (nI f9)]] ++ zcs n ad (zcf d))) (fun u => match u with | (ed2, cE2, cap2, a2) => [(cE2, .object "java/lang/Object")]) 1 58 := by
  refine zw_headi (cc := cAL_add) (maxL := 2) (ret := (some .boolean)) (by decide +kernel) rfl (Nat.le_of_ble_eq_true rfl) ?_
  intro p e s m below meth c ls A F hA hP hK hD hS hX hl
  obtain ⟨hx, hb, hml, hr, hlocks, hown, hts⟩ := F
  have hown : s.vm.findClass "java/util/ArrayList" = some m.cls := hown
  have hz : ∀ w9 ∈ zT, w9.before [.ref al, .ref x].toArray s = true := fun w9 h => hts w9 (List.mem_cons_of_mem _ h)
  have hl : lv_has ls 2 [(0, .ref al), (1, .ref x)] := hl
  have hN := hX.1
  refine z_q (fun Q hQ => ?_)
  refine lv_aload_n hx hb dAL_add_0 rfl (lv_at hl 0 rfl) ?_
  refine lv_dup hx hb dAL_add_1 rfl ?_
  refine va_get (D := (dC, dI)) (ci := 2) (v := .int mo) (C := RAL) (T := TAL) (N := 3) hx hb hz in_AL hown hK hP 0 rfl rfl 2 (by decide) (hz _ wd_76) (fun x9 h9 => u_same (hz _ wd_77) x9 h9) rfl dAL_add_2 ?_
  refine lv_iconst (v := nI 1) hx hb dAL_add_5 (by decide) ?_
  refine lv_iadd hx hb dAL_add_6 ?_
  refine va_put (D := (dC, dI)) (ci := 2) (v := .int (mo + (nI 1))) (ty := .int) (C := RAL) (T := TAL) (N := 3) hx hb hz in_AL tyAL tokAL nokAL hown hK hP hD hS 0 rfl rfl 2 (by decide) (hz _ wd_76) (fun x9 h9 => u_same (hz _ wd_77) x9 h9) rfl (by decide +kernel) rfl rfl (Nat.le_of_ble_eq_true rfl) dAL_add_7 (fun H locs hP hD hS => ?_)
  have hP : va_P (dC, dI) vwCl ([zob al 2 [.ref ed, .int (nI n), .int (mo + (nI 1))], zrf ed cE cap a, zob x 7 [.int (nI f0), .int (nI f1), .int (nI f2), .int (nI f3), .int (nI f4), .int (nI f5), .int (nI f6), .int (nI f7), .int (nI f8), .int (nI f9)]] ++ zcs n ad (zcf d)) H := hP
  have hD : va_D A ([zob al 2 [.ref ed, .int (nI n), .int (mo + (nI 1))], zrf ed cE cap a, zob x 7 [.int (nI f0), .int (nI f1), .int (nI f2), .int (nI f3), .int (nI f4), .int (nI f5), .int (nI f6), .int (nI f7), .int (nI f8), .int (nI f9)]] ++ zcs n ad (zcf d)) := hD
  refine lv_aload_n hx hb dAL_add_10 rfl (lv_at hl 0 rfl) ?_
  refine lv_aload_n hx hb dAL_add_11 rfl (lv_at hl 1 rfl) ?_
  refine lv_aload_n hx hb dAL_add_12 rfl (lv_at hl 0 rfl) ?_
  refine va_get (D := (dC, dI)) (ci := 2) (v := .ref ed) (C := RAL) (T := TAL) (N := 3) hx hb hz in_AL hown hK hP 0 rfl rfl 0 (by decide) (hz _ wd_73) (fun _ h9 => h9) rfl dAL_add_13 ?_
  refine lv_aload_n hx hb dAL_add_16 rfl (lv_at hl 0 rfl) ?_
  refine va_get (D := (dC, dI)) (ci := 2) (v := .int (nI n)) (C := RAL) (T := TAL) (N := 3) hx hb hz in_AL hown hK hP 0 rfl rfl 1 (by decide) (hz _ wd_74) (fun _ h9 => h9) rfl dAL_add_17 ?_
  refine zw_callTv (wr := []) hK hP hD hS hA [0, 1, 2] [] rfl rfl (by decide) (by decide) (va_runV (As := [.ref x, .ref ed, .int (nI n)]) (rest := []) ⟨hx, hb, hml, hown, hz⟩ ((g_AL_add_41 l dC dI al ed cE cap a (mo + (nI 1)) n ad d x f0 f1 f2 f3 f4 f5 f6 f7 f8 f9 mi (ha) (hn)) H.size) (cwV 3 hz (z_gV wd_302 wd_304 wd_2 wd_33 wd_305) rfl rfl rfl (by decide +kernel) ⟨Nat.le_of_ble_eq_true rfl, Nat.le_of_ble_eq_true rfl⟩) (zw_preVT hK hP hD (va_recv (q0 := 0) hK hP (q := (RAL, TAL, 3)) rfl rfl) [0, 1, 2] (by decide) rfl [0] rfl zG0_blind (zG0_call hX)) rfl rfl hl.1 rfl (lv_room (Nat.le_of_ble_eq_true rfl)) dAL_add_20 ⟨Nat.le_of_ble_eq_true rfl, Nat.le_of_ble_eq_true rfl⟩) (fun u H locs h_rc hP hD hK hS => ?_)
  obtain ⟨q_2, c_2, p_2, a_2⟩ := u
  have hP : va_P (dC, dI) vwCl ([zob al 2 [.ref q_2, .int (nI (n + 1)), .int (mo + (nI 1))], zob x 7 [.int (nI f0), .int (nI f1), .int (nI f2), .int (nI f3), .int (nI f4), .int (nI f5), .int (nI f6), .int (nI f7), .int (nI f8), .int (nI f9)], zrf q_2 c_2 p_2 a_2] ++ zcs n ad (zcf d)) H := zt_sub hP [0, 2, 1] rfl
  have hD : va_D A ([zob al 2 [.ref q_2, .int (nI (n + 1)), .int (mo + (nI 1))], zob x 7 [.int (nI f0), .int (nI f1), .int (nI f2), .int (nI f3), .int (nI f4), .int (nI f5), .int (nI f6), .int (nI f7), .int (nI f8), .int (nI f9)], zrf q_2 c_2 p_2 a_2] ++ zcs n ad (zcf d)) := zt_subD hD [0, 2, 1] (by decide) rfl
  have hK : va_K (dC, dI) vwCl [(cE, .object "java/lang/Object"), (c_2, .object "java/lang/Object")] s := hK
  refine W.widen (k := 1) (n := 58) (Nat.le_of_ble_eq_true rfl) (Nat.le_of_ble_eq_true rfl) ?_
  have h_rc : n < p_2 ∧ 2 ≤ p_2 ∧ p_2 ≤ 58 ∧ ∀ k, k < n + 1 → a_2 k = some (va_up ad n x k) := h_rc
  refine lv_iconst (v := nI 1) hx hb dAL_add_23 (by decide) ?_
  subst hQ
  exact zw_zret (D := (dC, dI)) (cl := vwCl) (A := A) (q_2, c_2, p_2, a_2) hx hb hr hlocks (Or.inr rfl) (⟨rfl, h_rc⟩) (zt_sub hP [0, 2, 1] rfl) (hK.sub [1] rfl) (zt_subD hD [0, 2, 1] (by decide) rfl) hS dAL_add_24
