set_option maxHeartbeats 8000000 in
set_option maxRecDepth 100000 in
theorem lawN_16 {p : Program} (l : Launch) {e : Env} {s : State} {m : MethodId} {below : List Frame} {meth : Method} {c : Code} {Q : State → Prop} {A : Nat → Prop} {dC : Nat → ClassId} {dI : Nat → Nat → Nat} {b L t mi : Nat} {ty : FieldType} {xs : Nat → Int32} {h0 g al wd hh l0 l1 l2 l3 p0 p1 p2 p3 ln pn h1 b0 b1 b2 b3 b4 b5 b6 b7 b8 b9 b10 b11 b12 b13 b14 b15 b16 b17 : Nat} {kp0 kp1 kp2 kp3 kn kb0 kb1 kb2 kb3 kb4 kb5 kb6 kb7 kb8 kb9 kb10 kb11 kb12 kb13 kb14 kb15 kb16 kb17 : ClassId} (hx : p.tables.exec = Jvm.exec) (hb : c.code = code) (hml : c.maxLocals = 4) (hown : s.vm.findClass "SpannedCellsLaw" = some m.cls) (hz : ∀ w9 ∈ zT, w9.before #[Value.ref b] s = true) (hXs : va_X b L xs s s.heap) (hbl : b < s.heap.size) (hAb : ¬ A b) (hA : ∀ q : Nat, s.heap.size ≤ q → A q) (hN : zN s) (hX : zY t ty mi A s) {i cl sl : Nat} (hL : L ≤ 3072) (hi6 : i + 6 ≤ L) (hc9 : cl + 2 ≤ 600000) (hs9 : sl + 68 ≤ 7302250) (backN : zAtN p l e s m below meth c Q A dC dI b h0 g al wd hh l0 l1 l2 l3 p0 p1 p2 p3 ln pn h1 b0 b1 b2 b3 b4 b5 b6 b7 b8 b9 b10 b11 b12 b13 b14 b15 b16 b17 kp0 kp1 kp2 kp3 kn kb0 kb1 kb2 kb3 kb4 kb5 kb6 kb7 kb8 kb9 kb10 kb11 kb12 kb13 kb14 kb15 kb16 kb17 i (cl + 2) (sl + 68) 615) : zAtN p l e s m below meth c Q A dC dI b h0 g al wd hh l0 l1 l2 l3 p0 p1 p2 p3 ln pn h1 b0 b1 b2 b3 b4 b5 b6 b7 b8 b9 b10 b11 b12 b13 b14 b15 b16 b17 kp0 kp1 kp2 kp3 kn kb0 kb1 kb2 kb3 kb4 kb5 kb6 kb7 kb8 kb9 kb10 kb11 kb12 kb13 kb14 kb15 kb16 kb17 i cl sl 556 := by
  intro ed cE n cap aa ad d ce mo gr gs bg re sp gp fx mm rg rn ro sq gq fq g0 g1 g2 g3 gn v0 v1 v2 v3 v4 v5 H locs ls hI hcp ha hl hP hD hK hS
  have hnum := zI_num hI
  have hP : va_P (dC, dI) vwCl ([zob h0 0 [.ref g, .ref wd, .ref hh, .int (nI sp), .int (nI gp), .int (nI fx)], zob g 1 [.ref al, .int (nI gr), .int (nI gs), .int (nI bg), .int (nI re), .int (nI ce)], zob al 2 [.ref ed, .int (nI n), .int mo], zrf ed cE cap aa, zob wd 3 [.ref l0, .ref l1, .ref l2, .ref l3], zob l0 4 [.ref p0], zob l1 4 [.ref p1], zob l2 4 [.ref p2], zob l3 4 [.ref p3], zar p0 kp0 12 g0, zar p1 kp1 12 g1, zar p2 kp2 12 g2, zar p3 kp3 12 g3, zob hh 5 [.ref ln], zob ln 4 [.ref pn], zar pn kn 12 gn, zob h1 6 [.int (nI gr), .ref b0, .ref b1, .int (nI n), .ref b2, .ref b3, .ref b4, .ref b5, .ref b6, .ref b7, .ref b8, .ref b9, .ref b10, .ref b11, .int (nI rg - nI 1), .int (nI rn), .int (nI ro), .int (nI sq), .int (nI gq), .int (nI fq), .ref b12, .ref b13, .ref b14, .ref b15, .ref b16, .ref b17], zar b0 kb0 8 (fun j => nI (mm 0 j)), zar b1 kb1 8 (fun j => nI (mm 1 j)), zar b2 kb2 40 (fun j => nI (mm 2 j)), zar b3 kb3 40 (fun j => nI (mm 3 j)), zar b4 kb4 40 (fun j => nI (mm 4 j)), zar b5 kb5 40 (fun j => nI (mm 5 j)), zar b6 kb6 40 (fun j => nI (mm 6 j)), zar b7 kb7 40 (fun j => nI (mm 7 j)), zar b8 kb8 40 (fun j => nI (mm 8 j)), zar b9 kb9 40 (fun j => nI (mm 9 j)), zar b10 kb10 40 (fun j => nI (mm 10 j)), zar b11 kb11 40 (fun j => nI (mm 11 j)), zar b12 kb12 12 v0, zar b13 kb13 12 v1, zar b14 kb14 12 v2, zar b15 kb15 12 v3, zar b16 kb16 12 v4, zar b17 kb17 12 v5] ++ zcs n ad (zcf d)) H := hP
  have hD : va_D A ([zob h0 0 [.ref g, .ref wd, .ref hh, .int (nI sp), .int (nI gp), .int (nI fx)], zob g 1 [.ref al, .int (nI gr), .int (nI gs), .int (nI bg), .int (nI re), .int (nI ce)], zob al 2 [.ref ed, .int (nI n), .int mo], zrf ed cE cap aa, zob wd 3 [.ref l0, .ref l1, .ref l2, .ref l3], zob l0 4 [.ref p0], zob l1 4 [.ref p1], zob l2 4 [.ref p2], zob l3 4 [.ref p3], zar p0 kp0 12 g0, zar p1 kp1 12 g1, zar p2 kp2 12 g2, zar p3 kp3 12 g3, zob hh 5 [.ref ln], zob ln 4 [.ref pn], zar pn kn 12 gn, zob h1 6 [.int (nI gr), .ref b0, .ref b1, .int (nI n), .ref b2, .ref b3, .ref b4, .ref b5, .ref b6, .ref b7, .ref b8, .ref b9, .ref b10, .ref b11, .int (nI rg - nI 1), .int (nI rn), .int (nI ro), .int (nI sq), .int (nI gq), .int (nI fq), .ref b12, .ref b13, .ref b14, .ref b15, .ref b16, .ref b17], zar b0 kb0 8 (fun j => nI (mm 0 j)), zar b1 kb1 8 (fun j => nI (mm 1 j)), zar b2 kb2 40 (fun j => nI (mm 2 j)), zar b3 kb3 40 (fun j => nI (mm 3 j)), zar b4 kb4 40 (fun j => nI (mm 4 j)), zar b5 kb5 40 (fun j => nI (mm 5 j)), zar b6 kb6 40 (fun j => nI (mm 6 j)), zar b7 kb7 40 (fun j => nI (mm 7 j)), zar b8 kb8 40 (fun j => nI (mm 8 j)), zar b9 kb9 40 (fun j => nI (mm 9 j)), zar b10 kb10 40 (fun j => nI (mm 10 j)), zar b11 kb11 40 (fun j => nI (mm 11 j)), zar b12 kb12 12 v0, zar b13 kb13 12 v1, zar b14 kb14 12 v2, zar b15 kb15 12 v3, zar b16 kb16 12 v4, zar b17 kb17 12 v5] ++ zcs n ad (zcf d)) := hD
  have hK : va_K (dC, dI) vwCl [(cE, .object "java/lang/Object"), (kp0, .int), (kp1, .int), (kp2, .int), (kp3, .int), (kn, .int), (kb0, .int), (kb1, .int), (kb2, .int), (kb3, .int), (kb4, .int), (kb5, .int), (kb6, .int), (kb7, .int), (kb8, .int), (kb9, .int), (kb10, .int), (kb11, .int), (kb12, .int), (kb13, .int), (kb14, .int), (kb15, .int), (kb16, .boolean), (kb17, .int)] s := hK
  have hl : lv_has ls 4 [(3, .int (nI i)), (2, .ref h1), (1, .ref h0), (0, .ref b)] := hl
  refine lv_aload_n hx hb dLW_law_556 rfl (lv_at hl 2 rfl) ?_
  refine lv_aload_n hx hb dLW_law_557 rfl (lv_at hl 3 rfl) ?_
  refine lv_iload_n hx hb dLW_law_558 rfl (lv_at hl 0 rfl) ?_
  refine lv_iconst (v := nI 1) hx hb dLW_law_559 (by decide) ?_
  refine lv_iadd hx hb dLW_law_560 ?_
  refine lv_topi (fun x1 e2 => ?_)
  have e2 : x1 = nI (i + 1) := e2.trans (nI_add _ _)
  subst e2
  refine va_sld hx hb hXs hbl hAb hS (vp_in_nI (by omega) (by omega)) dLW_law_561 ?_
  refine lv_topi (fun x3 e4 => ?_)
  have e4 : x3 = xs (i + 1) := e4.trans (by rw [nI_clamp (by omega)])
  subst e4
  refine lv_aload_n hx hb dLW_law_562 rfl (lv_at hl 3 rfl) ?_
  refine lv_iload_n hx hb dLW_law_563 rfl (lv_at hl 0 rfl) ?_
  refine lv_iconst (v := nI 2) hx hb dLW_law_564 (by decide) ?_
  refine lv_iadd hx hb dLW_law_565 ?_
  refine lv_topi (fun x5 e6 => ?_)
  have e6 : x5 = nI (i + 2) := e6.trans (nI_add _ _)
  subst e6
  refine va_sld hx hb hXs hbl hAb hS (vp_in_nI (by omega) (by omega)) dLW_law_566 ?_
  refine lv_topi (fun x7 e8 => ?_)
  have e8 : x7 = xs (i + 2) := e8.trans (by rw [nI_clamp (by omega)])
  subst e8
  refine lv_aload_n hx hb dLW_law_567 rfl (lv_at hl 3 rfl) ?_
  refine lv_iload_n hx hb dLW_law_568 rfl (lv_at hl 0 rfl) ?_
  refine lv_iconst (v := nI 3) hx hb dLW_law_569 (by decide) ?_
  refine lv_iadd hx hb dLW_law_570 ?_
  refine lv_topi (fun x9 e10 => ?_)
  have e10 : x9 = nI (i + 3) := e10.trans (nI_add _ _)
  subst e10
  refine va_sld hx hb hXs hbl hAb hS (vp_in_nI (by omega) (by omega)) dLW_law_571 ?_
  refine lv_topi (fun x11 e12 => ?_)
  have e12 : x11 = xs (i + 3) := e12.trans (by rw [nI_clamp (by omega)])
  subst e12
  refine lv_if_eq (tgt := 579) hx hb dLW_law_572 rfl (fun h_f => ?_) (fun h_f => ?_)
  · refine lv_iconst (v := nI 0) hx hb dLW_law_579 (by decide) ?_
    refine vp_callSi (W.runV (As := [.int (xs (i + 1)), .int (xs (i + 2)), .int (nI 0)]) (rest := []) ⟨hx, hb, hml, hown, hz⟩ (f_SC_edge l dC dI h0 wd hh sp gp fx g gr gs bg re ce al ed cE cap aa mo n ad d (xs (i + 1)) (xs (i + 2)) (nI 0) (by omega) (by omega) (ha) (zI_dle hI) (by omega)) (cwV 3 hz (z_gV wd_559 wd_560 wd_561 wd_29 wd_562) rfl rfl rfl (by decide +kernel) ⟨Nat.le_of_ble_eq_true rfl, Nat.le_of_ble_eq_true rfl⟩) (zr_preV hK (zt_sub hP [0, 1, 2, 3] rfl) (va_recv (q0 := 0) hK hP (q := (RSC, TSC, 6)) rfl rfl) [0] rfl zN_blind (zN_call hN)) rfl rfl hl.1 rfl (lv_room (Nat.le_of_ble_eq_true rfl)) dLW_law_580 ⟨(by show _ ≤ 600000; omega), (by show _ ≤ 7302250; omega)⟩) (fun r1 h_r1 => ?_)
    have h_r1 : (¬ ((0 ≤ (xs (i + 1)).toInt ∧ (xs (i + 1)).toInt < ce) ∧ (0 ≤ (xs (i + 2)).toInt ∧ (xs (i + 2)).toInt < re)) ∧ r1 = -1) ∨ (((0 ≤ (xs (i + 1)).toInt ∧ (xs (i + 1)).toInt < ce) ∧ (0 ≤ (xs (i + 2)).toInt ∧ (xs (i + 2)).toInt < re)) ∧ ∃ c1 c2, zFst n (fun k => zTd d k (xs (i + 1)) (xs (i + 2))) c1 ∧ zFst n (fun k => zTd d k (if (nI 0) = 0 then (xs (i + 1)) + nI 1 else (xs (i + 1))) (if (nI 0) = 0 then (xs (i + 2)) else (xs (i + 2)) + nI 1)) c2 ∧ zDr n (d 8) (d 9) c1 c2 r1) := h_r1
    refine lv_aload_n hx hb dLW_law_583 rfl (lv_at hl 1 rfl) ?_
    refine lv_aload_n hx hb dLW_law_584 rfl (lv_at hl 3 rfl) ?_
    refine lv_iload_n hx hb dLW_law_585 rfl (lv_at hl 0 rfl) ?_
    refine lv_iconst (v := nI 1) hx hb dLW_law_586 (by decide) ?_
    refine lv_iadd hx hb dLW_law_587 ?_
    refine lv_topi (fun x14 e15 => ?_)
    have e15 : x14 = nI (i + 1) := e15.trans (nI_add _ _)
    subst e15
    refine va_sld hx hb hXs hbl hAb hS (vp_in_nI (by omega) (by omega)) dLW_law_588 ?_
    refine lv_topi (fun x16 e17 => ?_)
    have e17 : x16 = xs (i + 1) := e17.trans (by rw [nI_clamp (by omega)])
    subst e17
    refine lv_aload_n hx hb dLW_law_589 rfl (lv_at hl 3 rfl) ?_
    refine lv_iload_n hx hb dLW_law_590 rfl (lv_at hl 0 rfl) ?_
    refine lv_iconst (v := nI 2) hx hb dLW_law_591 (by decide) ?_
    refine lv_iadd hx hb dLW_law_592 ?_
    refine lv_topi (fun x18 e19 => ?_)
    have e19 : x18 = nI (i + 2) := e19.trans (nI_add _ _)
    subst e19
    refine va_sld hx hb hXs hbl hAb hS (vp_in_nI (by omega) (by omega)) dLW_law_593 ?_
    refine lv_topi (fun x20 e21 => ?_)
    have e21 : x20 = xs (i + 2) := e21.trans (by rw [nI_clamp (by omega)])
    subst e21
    refine lv_aload_n hx hb dLW_law_594 rfl (lv_at hl 3 rfl) ?_
    refine lv_iload_n hx hb dLW_law_595 rfl (lv_at hl 0 rfl) ?_
    refine lv_iconst (v := nI 3) hx hb dLW_law_596 (by decide) ?_
    refine lv_iadd hx hb dLW_law_597 ?_
    refine lv_topi (fun x22 e23 => ?_)
    have e23 : x22 = nI (i + 3) := e23.trans (nI_add _ _)
    subst e23
    refine va_sld hx hb hXs hbl hAb hS (vp_in_nI (by omega) (by omega)) dLW_law_598 ?_
    refine lv_topi (fun x24 e25 => ?_)
    have e25 : x24 = xs (i + 3) := e25.trans (by rw [nI_clamp (by omega)])
    subst e25
    refine lv_if_eq (tgt := 606) hx hb dLW_law_599 rfl (fun _ => ?_) (fun h => absurd (h_f) h)
    refine lv_iconst (v := nI 0) hx hb dLW_law_606 (by decide) ?_
    refine vp_callSi (W.runV (As := [.int (xs (i + 1)), .int (xs (i + 2)), .int (nI 0)]) (rest := [.int r1]) ⟨hx, hb, hml, hown, hz⟩ (f_MD_edge l dC dI h1 b0 b1 b2 b3 b4 b5 b6 b7 b8 b9 b10 b11 b12 b13 b14 b15 b16 b17 kb0 kb1 kb2 kb3 kb4 kb5 kb6 kb7 kb8 kb9 kb10 kb11 gr n _ rn ro sq gq fq _ (xs (i + 1)) (xs (i + 2)) (nI 0) (hI.2.2.2.1) (by omega) (by omega) (zI_mG hI) (zI_mE hI)) (cwV 3 hz (z_gV wd_793 wd_794 wd_795 wd_37 wd_796) rfl rfl rfl (by decide +kernel) ⟨Nat.le_of_ble_eq_true rfl, Nat.le_of_ble_eq_true rfl⟩) (zr_preV hK (hP.sub [16, 17, 18, 19, 20, 21, 22, 23, 24, 25, 26, 27, 28] rfl) (va_recv (q0 := 16) hK hP (q := (RMD, TMD, 26)) rfl rfl) [6, 7, 8, 9, 10, 11, 12, 13, 14, 15, 16, 17] rfl z_true (fun _ _ _ => trivial)) rfl rfl hl.1 rfl (lv_room (Nat.le_of_ble_eq_true rfl)) dLW_law_607 ⟨(by show _ ≤ 600000; omega), (by show _ ≤ 7302250; omega)⟩) (fun r2 h_r2 => ?_)
    have h_r2 : (¬ ((0 ≤ (xs (i + 1)).toInt ∧ (xs (i + 1)).toInt < zCo mm n) ∧ (0 ≤ (xs (i + 2)).toInt ∧ (xs (i + 2)).toInt < zEn mm (gr - 1) n)) ∧ r2 = -1) ∨ (((0 ≤ (xs (i + 1)).toInt ∧ (xs (i + 1)).toInt < zCo mm n) ∧ (0 ≤ (xs (i + 2)).toInt ∧ (xs (i + 2)).toInt < zEn mm (gr - 1) n)) ∧ ∃ c1 c2, zFst n (zMt mm n (xs (i + 1)) (xs (i + 2))) c1 ∧ zFst n (zMt mm n (if (nI 0) = 0 then (xs (i + 1)) + nI 1 else (xs (i + 1))) (if (nI 0) = 0 then (xs (i + 2)) else (xs (i + 2)) + nI 1)) c2 ∧ zDr n (mm 10) (mm 11) c1 c2 r2) := h_r2
    refine lv_icmp_eq (tgt := 615) hx hb dLW_law_610 rfl (fun _ => ?_) (fun h => absurd (zL_edge hI h_r1 h_r2) h)
    refine W.widen (k := cl + 2) (n := sl + 68) (by omega) (by omega) ?_
    exact backN ed cE n cap aa ad d ce mo gr gs bg re sp gp fx mm rg rn ro sq gq fq g0 g1 g2 g3 gn v0 v1 v2 v3 v4 v5 H locs ls (hI) (by omega) (ha) (lv_sub hl [0, 1, 2, 3] rfl) (zt_sub hP [0, 1, 2, 3, 4, 5, 6, 7, 8, 9, 10, 11, 12, 13, 14, 15, 16, 17, 18, 19, 20, 21, 22, 23, 24, 25, 26, 27, 28, 29, 30, 31, 32, 33, 34] rfl) (zt_subD hD [0, 1, 2, 3, 4, 5, 6, 7, 8, 9, 10, 11, 12, 13, 14, 15, 16, 17, 18, 19, 20, 21, 22, 23, 24, 25, 26, 27, 28, 29, 30, 31, 32, 33, 34] (by decide) rfl) (hK.sub [0, 1, 2, 3, 4, 5, 6, 7, 8, 9, 10, 11, 12, 13, 14, 15, 16, 17, 18, 19, 20, 21, 22, 23] rfl) hS
  · refine lv_iconst (v := nI 1) hx hb dLW_law_575 (by decide) ?_
    refine lv_goto (tgt := 580) hx hb dLW_law_576 rfl ?_
    refine vp_callSi (W.runV (As := [.int (xs (i + 1)), .int (xs (i + 2)), .int (nI 1)]) (rest := []) ⟨hx, hb, hml, hown, hz⟩ (f_SC_edge l dC dI h0 wd hh sp gp fx g gr gs bg re ce al ed cE cap aa mo n ad d (xs (i + 1)) (xs (i + 2)) (nI 1) (by omega) (by omega) (ha) (zI_dle hI) (by omega)) (cwV 3 hz (z_gV wd_559 wd_560 wd_561 wd_29 wd_562) rfl rfl rfl (by decide +kernel) ⟨Nat.le_of_ble_eq_true rfl, Nat.le_of_ble_eq_true rfl⟩) (zr_preV hK (zt_sub hP [0, 1, 2, 3] rfl) (va_recv (q0 := 0) hK hP (q := (RSC, TSC, 6)) rfl rfl) [0] rfl zN_blind (zN_call hN)) rfl rfl hl.1 rfl (lv_room (Nat.le_of_ble_eq_true rfl)) dLW_law_580 ⟨(by show _ ≤ 600000; omega), (by show _ ≤ 7302250; omega)⟩) (fun r1 h_r1 => ?_)
    have h_r1 : (¬ ((0 ≤ (xs (i + 1)).toInt ∧ (xs (i + 1)).toInt < ce) ∧ (0 ≤ (xs (i + 2)).toInt ∧ (xs (i + 2)).toInt < re)) ∧ r1 = -1) ∨ (((0 ≤ (xs (i + 1)).toInt ∧ (xs (i + 1)).toInt < ce) ∧ (0 ≤ (xs (i + 2)).toInt ∧ (xs (i + 2)).toInt < re)) ∧ ∃ c1 c2, zFst n (fun k => zTd d k (xs (i + 1)) (xs (i + 2))) c1 ∧ zFst n (fun k => zTd d k (if (nI 1) = 0 then (xs (i + 1)) + nI 1 else (xs (i + 1))) (if (nI 1) = 0 then (xs (i + 2)) else (xs (i + 2)) + nI 1)) c2 ∧ zDr n (d 8) (d 9) c1 c2 r1) := h_r1
    refine lv_aload_n hx hb dLW_law_583 rfl (lv_at hl 1 rfl) ?_
    refine lv_aload_n hx hb dLW_law_584 rfl (lv_at hl 3 rfl) ?_
    refine lv_iload_n hx hb dLW_law_585 rfl (lv_at hl 0 rfl) ?_
    refine lv_iconst (v := nI 1) hx hb dLW_law_586 (by decide) ?_
    refine lv_iadd hx hb dLW_law_587 ?_
    refine lv_topi (fun x26 e27 => ?_)
    have e27 : x26 = nI (i + 1) := e27.trans (nI_add _ _)
    subst e27
    refine va_sld hx hb hXs hbl hAb hS (vp_in_nI (by omega) (by omega)) dLW_law_588 ?_
    refine lv_topi (fun x28 e29 => ?_)
    have e29 : x28 = xs (i + 1) := e29.trans (by rw [nI_clamp (by omega)])
    subst e29
    refine lv_aload_n hx hb dLW_law_589 rfl (lv_at hl 3 rfl) ?_
    refine lv_iload_n hx hb dLW_law_590 rfl (lv_at hl 0 rfl) ?_
    refine lv_iconst (v := nI 2) hx hb dLW_law_591 (by decide) ?_
    refine lv_iadd hx hb dLW_law_592 ?_
    refine lv_topi (fun x30 e31 => ?_)
    have e31 : x30 = nI (i + 2) := e31.trans (nI_add _ _)
    subst e31
    refine va_sld hx hb hXs hbl hAb hS (vp_in_nI (by omega) (by omega)) dLW_law_593 ?_
    refine lv_topi (fun x32 e33 => ?_)
    have e33 : x32 = xs (i + 2) := e33.trans (by rw [nI_clamp (by omega)])
    subst e33
    refine lv_aload_n hx hb dLW_law_594 rfl (lv_at hl 3 rfl) ?_
    refine lv_iload_n hx hb dLW_law_595 rfl (lv_at hl 0 rfl) ?_
    refine lv_iconst (v := nI 3) hx hb dLW_law_596 (by decide) ?_
    refine lv_iadd hx hb dLW_law_597 ?_
    refine lv_topi (fun x34 e35 => ?_)
    have e35 : x34 = nI (i + 3) := e35.trans (nI_add _ _)
    subst e35
    refine va_sld hx hb hXs hbl hAb hS (vp_in_nI (by omega) (by omega)) dLW_law_598 ?_
    refine lv_topi (fun x36 e37 => ?_)
    have e37 : x36 = xs (i + 3) := e37.trans (by rw [nI_clamp (by omega)])
    subst e37
    refine lv_if_eq (tgt := 606) hx hb dLW_law_599 rfl (fun h => absurd h (h_f)) (fun _ => ?_)
    refine lv_iconst (v := nI 1) hx hb dLW_law_602 (by decide) ?_
    refine lv_goto (tgt := 607) hx hb dLW_law_603 rfl ?_
    refine vp_callSi (W.runV (As := [.int (xs (i + 1)), .int (xs (i + 2)), .int (nI 1)]) (rest := [.int r1]) ⟨hx, hb, hml, hown, hz⟩ (f_MD_edge l dC dI h1 b0 b1 b2 b3 b4 b5 b6 b7 b8 b9 b10 b11 b12 b13 b14 b15 b16 b17 kb0 kb1 kb2 kb3 kb4 kb5 kb6 kb7 kb8 kb9 kb10 kb11 gr n _ rn ro sq gq fq _ (xs (i + 1)) (xs (i + 2)) (nI 1) (hI.2.2.2.1) (by omega) (by omega) (zI_mG hI) (zI_mE hI)) (cwV 3 hz (z_gV wd_793 wd_794 wd_795 wd_37 wd_796) rfl rfl rfl (by decide +kernel) ⟨Nat.le_of_ble_eq_true rfl, Nat.le_of_ble_eq_true rfl⟩) (zr_preV hK (hP.sub [16, 17, 18, 19, 20, 21, 22, 23, 24, 25, 26, 27, 28] rfl) (va_recv (q0 := 16) hK hP (q := (RMD, TMD, 26)) rfl rfl) [6, 7, 8, 9, 10, 11, 12, 13, 14, 15, 16, 17] rfl z_true (fun _ _ _ => trivial)) rfl rfl hl.1 rfl (lv_room (Nat.le_of_ble_eq_true rfl)) dLW_law_607 ⟨(by show _ ≤ 600000; omega), (by show _ ≤ 7302250; omega)⟩) (fun r2 h_r2 => ?_)
    have h_r2 : (¬ ((0 ≤ (xs (i + 1)).toInt ∧ (xs (i + 1)).toInt < zCo mm n) ∧ (0 ≤ (xs (i + 2)).toInt ∧ (xs (i + 2)).toInt < zEn mm (gr - 1) n)) ∧ r2 = -1) ∨ (((0 ≤ (xs (i + 1)).toInt ∧ (xs (i + 1)).toInt < zCo mm n) ∧ (0 ≤ (xs (i + 2)).toInt ∧ (xs (i + 2)).toInt < zEn mm (gr - 1) n)) ∧ ∃ c1 c2, zFst n (zMt mm n (xs (i + 1)) (xs (i + 2))) c1 ∧ zFst n (zMt mm n (if (nI 1) = 0 then (xs (i + 1)) + nI 1 else (xs (i + 1))) (if (nI 1) = 0 then (xs (i + 2)) else (xs (i + 2)) + nI 1)) c2 ∧ zDr n (mm 10) (mm 11) c1 c2 r2) := h_r2
    refine lv_icmp_eq (tgt := 615) hx hb dLW_law_610 rfl (fun _ => ?_) (fun h => absurd (zL_edge hI h_r1 h_r2) h)
    refine W.widen (k := cl + 2) (n := sl + 68) (by omega) (by omega) ?_
    exact backN ed cE n cap aa ad d ce mo gr gs bg re sp gp fx mm rg rn ro sq gq fq g0 g1 g2 g3 gn v0 v1 v2 v3 v4 v5 H locs ls (hI) (by omega) (ha) (lv_sub hl [0, 1, 2, 3] rfl) (zt_sub hP [0, 1, 2, 3, 4, 5, 6, 7, 8, 9, 10, 11, 12, 13, 14, 15, 16, 17, 18, 19, 20, 21, 22, 23, 24, 25, 26, 27, 28, 29, 30, 31, 32, 33, 34] rfl) (zt_subD hD [0, 1, 2, 3, 4, 5, 6, 7, 8, 9, 10, 11, 12, 13, 14, 15, 16, 17, 18, 19, 20, 21, 22, 23, 24, 25, 26, 27, 28, 29, 30, 31, 32, 33, 34] (by decide) rfl) (hK.sub [0, 1, 2, 3, 4, 5, 6, 7, 8, 9, 10, 11, 12, 13, 14, 15, 16, 17, 18, 19, 20, 21, 22, 23] rfl) hS
