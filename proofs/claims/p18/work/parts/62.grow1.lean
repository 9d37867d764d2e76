set_option maxHeartbeats 4000000 in
set_option maxRecDepth 100000 in
theorem f_AS_newLength (l : Launch) (dC : Nat → ClassId) (dI : Nat → Nat → Nat) (n : Nat) (b : Nat) (h : Nat) (hb0 : b ≤ h) (h0 : 1 ≤ n + h) (hh : n ≤ 1000 ∧ h ≤ 1000) : zp_M l yAS_newLength wAS_newLength ({ frames := 1, cells := 0, slots := 0, locals := 14 }) [.int (nI n), .int (nI b), .int (nI h)] (dC, dI) vwCl [] [] (fun _ => True) (fun r => r = nI (n + h)) := by
  refine zp_head (cc := cAS_newLength) (maxL := 4) (ret := (some .int)) (by decide +kernel) rfl (Nat.le_of_ble_eq_true rfl) ?_
  intro p e s m below meth c ls F hP hK hX hl
  obtain ⟨hx, hb, hml, hr, hlocks, hown, hts⟩ := F
  have hown : s.vm.findClass "jdk/internal/util/ArraysSupport" = some m.cls := hown
  have hz : ∀ w9 ∈ zT, w9.before [.int (nI n), .int (nI b), .int (nI h)].toArray s = true := fun w9 h => hts w9 (List.mem_cons_of_mem _ h)
  have hl : lv_has ls 4 [(0, .int (nI n)), (1, .int (nI b)), (2, .int (nI h))] := hl
  refine z_q (fun Q hQ => ?_)
  refine lv_iload_n hx hb dAS_newLength_0 rfl (lv_at hl 0 rfl) ?_
  refine lv_iload_n hx hb dAS_newLength_1 rfl (lv_at hl 1 rfl) ?_
  refine lv_iload_n hx hb dAS_newLength_2 rfl (lv_at hl 2 rfl) ?_
  refine va_mmax hx hb (hml.trans hl.1.symm) hown (hz _ wd_317) (hz _ wd_190) (hz _ wd_38) (hz _ wd_191) (Nat.le_of_ble_eq_true rfl) (Nat.le_of_ble_eq_true rfl) (Nat.le_of_ble_eq_true rfl) (Nat.le_of_ble_eq_true rfl) dAS_newLength_3 ?_
  refine lv_topi (fun x1 e2 => ?_)
  have e2 : x1 = nI h := e2.trans (by rw [z_max (by omega) (by omega)]; congr 1; split <;> omega)
  subst e2
  refine lv_iadd hx hb dAS_newLength_6 ?_
  refine lv_topi (fun x3 e4 => ?_)
  have e4 : x3 = nI (n + h) := e4.trans (nI_add _ _)
  subst e4
  refine lv_istore_n hx hb dAS_newLength_7 rfl hl (Nat.le_of_ble_eq_true rfl) rfl (fun ls hl => ?_)
  have hl : lv_has ls 4 [(3, .int (nI (n + h))), (0, .int (nI n)), (1, .int (nI b)), (2, .int (nI h))] := hl
  refine lv_iconst (v := nI 0) hx hb dAS_newLength_8 (by decide) ?_
  refine lv_iload_n hx hb dAS_newLength_9 rfl (lv_at hl 0 rfl) ?_
  have t5 := nI_toInt (n := 0) (by omega)
  have t6 := nI_toInt (n := n + h) (by omega)
  refine lv_icmp_ge (tgt := 21) hx hb dAS_newLength_10 rfl (fun h => by have h := z_le h; omega) (fun _ => ?_)
  refine lv_iload_n hx hb dAS_newLength_13 rfl (lv_at hl 0 rfl) ?_
  refine lv_ldc (v := 2147483639) hx hb hown (hz _ wd_318) dAS_newLength_14 ?_
  refine lv_topi (fun x7 e8 => ?_)
  have e8 : x7 = nI 2147483639 := e8.trans (by decide)
  subst e8
  have t9 := nI_toInt (n := n + h) (by omega)
  have t10 := nI_toInt (n := 2147483639) (by omega)
  refine lv_icmp_gt (tgt := 21) hx hb dAS_newLength_16 rfl (fun h => by have h := z_lt h; omega) (fun _ => ?_)
  refine lv_iload_n hx hb dAS_newLength_19 rfl (lv_at hl 0 rfl) ?_
  subst hQ
  exact zp_iret hx hb hr hlocks (rfl) dAS_newLength_20

set_option maxHeartbeats 4000000 in
set_option maxRecDepth 100000 in
theorem f_AR_copyOf_58 (l : Launch) (dC : Nat → ClassId) (dI : Nat → Nat → Nat) (ed : Nat) (cE : ClassId) (a : Nat → Option Nat) (n : Nat) (ad : Nat → Nat) (d : Nat → Nat → Nat) (L : Nat) (mi : Nat) (ha : ∀ k, k < n → a k = some (ad k)) (hL : n ≤ L ∧ L ≤ 58 ∧ 1 ≤ L) : zw_Mr (S := (Nat) × (ClassId) × (Nat → Option Nat)) l yAR_copyOf_58 wAR_copyOf_58 ({ frames := 1, cells := 1, slots := 58, locals := 18 }) [.ref ed, .int (nI L), .ref mi] (dC, dI) vwCl ([zrf ed cE n a] ++ zcs n ad (zcf d)) [(cE, .object "java/lang/Object")] (fun _ => zG0 mi) (fun u => match u with | (q2, c2, a2) => ∀ k, k < n → a2 k = a k) (fun u => match u with | (q2, c2, a2) => ([zrf ed cE n a, zrf q2 c2 L a2] ++ zcs n ad (zcf d))) (fun u => match u with | (q2, c2, a2) => [(c2, .object "java/lang/Object")]) (fun u => match u with | (q2, c2, a2) => q2) 1 58 := by
  refine zw_headr (cc := cAR_copyOf_58) (maxL := 4) (ret := (some (.array (.object "java/lang/Object")))) (by decide +kernel) rfl (Nat.le_of_ble_eq_true rfl) ?_
  intro p e s m below meth c ls A F hA hP hK hD hS hX hl
  obtain ⟨hx, hb, hml, hr, hlocks, hown, hts⟩ := F
  have hown : s.vm.findClass "java/util/Arrays" = some m.cls := hown
  have hz : ∀ w9 ∈ zT, w9.before [.ref ed, .int (nI L), .ref mi].toArray s = true := fun w9 h => hts w9 (List.mem_cons_of_mem _ h)
  have hl : lv_has ls 4 [(0, .ref ed), (1, .int (nI L)), (2, .ref mi)] := hl
  have hN := hX.1
  refine z_q (fun Q hQ => ?_)
  refine lv_aload_n hx hb dAR_copyOf_58_0 rfl (lv_at hl 2 rfl) ?_
  refine va_ldcM (mi := mi) hx hb hown (hz _ wd_340) hX.2.2.2.1 dAR_copyOf_58_1 ?_
  refine lv_acmp_ne (rx := some mi) (ry := some mi) (tgt := 13) hx hb dAR_copyOf_58_3 rfl (fun h => absurd rfl h) (fun _ => ?_)
  refine lv_iload_n hx hb dAR_copyOf_58_6 rfl (lv_at hl 1 rfl) ?_
  refine va_newq (N' := L) hx hb hown (hz _ wd_342) hX.2.2.1 hK hP hD hS hA (nI_pos (by omega)) (nI_clamp (by omega)) (by omega) (Nat.le_of_ble_eq_true rfl) (show 0 + L ≤ 58 by omega) dAR_copyOf_58_7 (fun q1 cA2 H hK hP hD hS => ?_)
  refine W.widen (k := 1) (n := 58) (Nat.le_of_ble_eq_true rfl) (by omega) ?_
  have hP := zP_perm z_pm hP
  have hD := zD_perm z_pm hD
  have hP : va_P (dC, dI) vwCl ([zrf ed cE n a, zrf q1 cA2 L (fun _ => none)] ++ zcs n ad (zcf d)) H := hP
  have hD : va_D A ([zrf ed cE n a, zrf q1 cA2 L (fun _ => none)] ++ zcs n ad (zcf d)) := hD
  have hK : va_K (dC, dI) vwCl [(cE, .object "java/lang/Object"), (cA2, .object "java/lang/Object")] s := hK
  refine lv_goto (tgt := 24) hx hb dAR_copyOf_58_10 rfl ?_
  refine lv_astore_n hx hb dAR_copyOf_58_24 rfl hl (Nat.le_of_ble_eq_true rfl) rfl (fun ls hl => ?_)
  have hl : lv_has ls 4 [(3, .ref q1), (0, .ref ed), (1, .int (nI L)), (2, .ref mi)] := hl
  refine lv_aload_n hx hb dAR_copyOf_58_25 rfl (lv_at hl 1 rfl) ?_
  refine lv_iconst (v := nI 0) hx hb dAR_copyOf_58_26 (by decide) ?_
  refine lv_aload_n hx hb dAR_copyOf_58_27 rfl (lv_at hl 0 rfl) ?_
  refine lv_iconst (v := nI 0) hx hb dAR_copyOf_58_28 (by decide) ?_
  refine lv_aload_n hx hb dAR_copyOf_58_29 rfl (lv_at hl 1 rfl) ?_
  refine va_alen (v := nI n) hx hb hK hP 0 0 rfl rfl rfl dAR_copyOf_58_30 ?_
  refine lv_iload_n hx hb dAR_copyOf_58_31 rfl (lv_at hl 2 rfl) ?_
  refine va_mmin hx hb (hml.trans hl.1.symm) hown (hz _ wd_343) (hz _ wd_344) (hz _ wd_38) (hz _ wd_345) (Nat.le_of_ble_eq_true rfl) (Nat.le_of_ble_eq_true rfl) (Nat.le_of_ble_eq_true rfl) (Nat.le_of_ble_eq_true rfl) dAR_copyOf_58_32 ?_
  refine lv_topi (fun x3 e4 => ?_)
  have e4 : x3 = nI n := e4.trans (by rw [z_min (by omega) (by omega)]; congr 1; split <;> omega)
  subst e4
  refine va_copyq (C := "SpannedCells$Cell") hx hb (hml.trans hl.1.symm) hown (hz _ wd_346) (hz _ wd_nat) (hz _ wd_347) (hz _ wd_44) hK hP hD hS 0 1 0 1 rfl rfl rfl rfl (nI_pos (by omega)) (nI_pos (by omega)) (nI_pos (by omega)) (by rw [nI_clamp (by omega), nI_clamp (by omega)]; omega) (by rw [nI_clamp (by omega), nI_clamp (by omega)]; omega) (fun i hi y hy => by rw [nI_clamp (by omega)] at hi; rw [nI_clamp (by omega), Nat.zero_add, ha i hi] at hy; cases hy; exact va_recv hK hP (q := (RCE, TCE, 10)) rfl (zcs_get rfl hi)) (z_assign hX.2.1) (Nat.le_of_ble_eq_true rfl) (Nat.le_of_ble_eq_true rfl) dAR_copyOf_58_35 (fun H locs hP hD hS => ?_)
  have hP : va_P (dC, dI) vwCl ([zrf ed cE n a, zrf q1 cA2 L (va_cpy a (fun _ => none) (nI 0).toNatClampNeg (nI 0).toNatClampNeg (nI n).toNatClampNeg)] ++ zcs n ad (zcf d)) H := hP
  have hD : va_D A ([zrf ed cE n a, zrf q1 cA2 L (va_cpy a (fun _ => none) (nI 0).toNatClampNeg (nI 0).toNatClampNeg (nI n).toNatClampNeg)] ++ zcs n ad (zcf d)) := hD
  rw [nI_clamp (n := 0) (by omega), nI_clamp (n := n) (by omega)] at hP hD
  have hP : va_P (dC, dI) vwCl ([zrf ed cE n a, zrf q1 cA2 L (va_cpy a (fun _ => none) 0 0 n)] ++ zcs n ad (zcf d)) H := hP
  have hD : va_D A ([zrf ed cE n a, zrf q1 cA2 L (va_cpy a (fun _ => none) 0 0 n)] ++ zcs n ad (zcf d)) := hD
  refine lv_aload_n hx hb dAR_copyOf_58_38 rfl (lv_at hl 0 rfl) ?_
  subst hQ
  exact zw_aret (D := (dC, dI)) (cl := vwCl) (A := A) (q1, cA2, va_cpy a (fun _ => none) 0 0 n) hx hb hr (Or.inr ⟨_, rfl⟩) hlocks (rfl) (fun k hk => (pk_cpy_in (Nat.zero_le _) (by omega)).trans (by rw [Nat.sub_zero, Nat.zero_add])) (zt_sub hP [0, 1] rfl) (hK.sub [1] rfl) (zt_subD hD [0, 1] (by decide) rfl) hS dAR_copyOf_58_39

set_option maxHeartbeats 4000000 in
set_option maxRecDepth 100000 in
theorem f_AR_copyOf (l : Launch) (dC : Nat → ClassId) (dI : Nat → Nat → Nat) (ed : Nat) (cE : ClassId) (a : Nat → Option Nat) (n : Nat) (ad : Nat → Nat) (d : Nat → Nat → Nat) (L : Nat) (mi : Nat) (ha : ∀ k, k < n → a k = some (ad k)) (hL : n ≤ L ∧ L ≤ 58 ∧ 1 ≤ L) : zw_Mr (S := (Nat) × (ClassId) × (Nat → Option Nat)) l yAR_copyOf wAR_copyOf ({ frames := 2, cells := 1, slots := 58, locals := 41 }) [.ref ed, .int (nI L)] (dC, dI) vwCl ([zrf ed cE n a] ++ zcs n ad (zcf d)) [(cE, .object "java/lang/Object")] (fun _ => zG0 mi) (fun u => match u with | (q2, c2, a2) => ∀ k, k < n → a2 k = a k) (fun u => match u with | (q2, c2, a2) => ([zrf ed cE n a, zrf q2 c2 L a2] ++ zcs n ad (zcf d))) (fun u => match u with | (q2, c2, a2) => [(c2, .object "java/lang/Object")]) (fun u => match u with | (q2, c2, a2) => q2) 1 58 := by
  refine zw_headr (cc := cAR_copyOf) (maxL := 2) (ret := (some (.array (.object "java/lang/Object")))) (by decide +kernel) rfl (Nat.le_of_ble_eq_true rfl) ?_
  intro p e s m below meth c ls A F hA hP hK hD hS hX hl
  obtain ⟨hx, hb, hml, hr, hlocks, hown, hts⟩ := F
  have hown : s.vm.findClass "java/util/Arrays" = some m.cls := hown
  have hz : ∀ w9 ∈ zT, w9.before [.ref ed, .int (nI L)].toArray s = true := fun w9 h => hts w9 (List.mem_cons_of_mem _ h)
  have hl : lv_has ls 2 [(0, .ref ed), (1, .int (nI L))] := hl
  have hN := hX.1
  refine z_q (fun Q hQ => ?_)
  refine lv_aload_n hx hb dAR_copyOf_0 rfl (lv_at hl 0 rfl) ?_
  refine lv_iload_n hx hb dAR_copyOf_1 rfl (lv_at hl 1 rfl) ?_
  refine lv_aload_n hx hb dAR_copyOf_2 rfl (lv_at hl 0 rfl) ?_
  refine va_getC (mi := mi) hx hb (hml.trans hl.1.symm) hown (hz _ wd_325) (va_Dc.use hX.2.2.2.2) (hz _ wd_gcs) (hz _ wd_326) (hz _ wd_gcn) hX.2.2.2.1 (z_recvA (t0 := 0) hK hP (q0 := 0) rfl rfl) (Nat.le_of_ble_eq_true rfl) (Nat.le_of_ble_eq_true rfl) dAR_copyOf_3 ?_
  refine zw_callTr (wr := []) hK hP hD hS hA [0] [] rfl rfl (by decide) (by decide) (va_runS (As := [.ref ed, .int (nI L), .ref mi]) (rest := []) ⟨hx, hb, hml, hown, hz⟩ ((f_AR_copyOf_58 l dC dI ed cE a n ad d L mi (ha) (hL)) s.heap.size) (va_cwS 3 hz (z_gS wd_337 wd_338 wd_43 wd_339) rfl rfl rfl (by decide +kernel) ⟨Nat.le_of_ble_eq_true rfl, Nat.le_of_ble_eq_true rfl⟩) (zw_preST hK hP hD [0] (by decide) rfl [0] rfl zG0_blind (zG0_call hX)) rfl rfl hl.1 rfl (lv_room (Nat.le_of_ble_eq_true rfl)) dAR_copyOf_6 ⟨Nat.le_of_ble_eq_true rfl, Nat.le_of_ble_eq_true rfl⟩) (fun u H locs h_rc hP hD hK hS => ?_)
  obtain ⟨q_2, c_2, a_2⟩ := u
  have hP : va_P (dC, dI) vwCl ([zrf ed cE n a, zrf q_2 c_2 L a_2] ++ zcs n ad (zcf d)) H := zt_sub hP [0, 1] rfl
  have hD : va_D A ([zrf ed cE n a, zrf q_2 c_2 L a_2] ++ zcs n ad (zcf d)) := zt_subD hD [0, 1] (by decide) rfl
  have hK : va_K (dC, dI) vwCl [(cE, .object "java/lang/Object"), (c_2, .object "java/lang/Object")] s := hK
  refine W.widen (k := 1) (n := 58) (Nat.le_of_ble_eq_true rfl) (Nat.le_of_ble_eq_true rfl) ?_
  refine W.eq (g2 := F0 m 9 ls [.ref q_2]) rfl ?_
  have h_rc : ∀ k, k < n → a_2 k = a k := h_rc
  subst hQ
  exact zw_aret (D := (dC, dI)) (cl := vwCl) (A := A) (q_2, c_2, a_2) hx hb hr (Or.inr ⟨_, rfl⟩) hlocks (rfl) (h_rc) (zt_sub hP [0, 1] rfl) (hK.sub [1] rfl) (zt_subD hD [0, 1] (by decide) rfl) hS dAR_copyOf_9
