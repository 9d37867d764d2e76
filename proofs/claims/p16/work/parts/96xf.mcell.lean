set_option maxHeartbeats 4000000 in
set_option maxRecDepth 100000 in
theorem x_MD_measureCell (l : Launch) (dC : Nat → ClassId) (dI : Nat → Nat → Nat) (h0 : Nat) (b0 : Nat) (b1 : Nat) (b2 : Nat) (b3 : Nat) (b4 : Nat) (b5 : Nat) (b6 : Nat) (b7 : Nat) (b8 : Nat) (b9 : Nat) (b10 : Nat) (b11 : Nat) (b12 : Nat) (b13 : Nat) (b14 : Nat) (b15 : Nat) (b16 : Nat) (b17 : Nat) (kb0 : ClassId) (kb1 : ClassId) (kb2 : ClassId) (kb3 : ClassId) (kb4 : ClassId) (kb5 : ClassId) (kb6 : ClassId) (kb7 : ClassId) (kb8 : ClassId) (kb9 : ClassId) (kb10 : ClassId) (kb11 : ClassId) (mg : Nat) (n : Nat) (rg : Nat) (rn : Nat) (ro : Nat) (sp : Nat) (gp : Nat) (fx : Nat) (mm : Nat → Nat → Nat) (kb12 : ClassId) (kb13 : ClassId) (kb17 : ClassId) (g0 : Nat → Nat) (g1 : Nat → Nat) (g5 : Nat → Int32) (k : Nat) (hm : ∀ a k, mm a k ≤ 1000) (hn : n ≤ 40) (hg : 1 ≤ mg ∧ mg ≤ 8 ∧ rg ≤ 8 ∧ rn ≤ 1000 ∧ ro ≤ 1000) (hG : ∀ k, k < n → mm 6 k < 8) (hE : ∀ k, k < n → mm 3 k ≤ zEn mm (mm 6 k) n) (hL : ∀ k, k < n → mm 2 k + mm 4 k ≤ 12 ∧ 1 ≤ mm 4 k) (hs : sp ≤ 10000 ∧ gp ≤ 20) (hk : k < n) (hLb : ∀ q, g0 q ≤ 20000) (hMb : ∀ q, g1 q ≤ 20000) (hLM : ∀ q, g0 q ≤ g1 q) (hlh : mm 7 k ≤ mm 8 k) : zw_Mv (S := (Nat → Nat) × (Nat → Nat) × (Nat → Int32)) l yMD_measureCell wMD_measureCell ({ frames := 1, cells := 0, slots := 0, locals := 28 }) [.ref h0, .int (nI k)] (dC, dI) vwCl [zob h0 6 [.int (nI mg), .ref b0, .ref b1, .int (nI n), .ref b2, .ref b3, .ref b4, .ref b5, .ref b6, .ref b7, .ref b8, .ref b9, .ref b10, .ref b11, .int (nI rg - nI 1), .int (nI rn), .int (nI ro), .int (nI sp), .int (nI gp), .int (nI fx), .ref b12, .ref b13, .ref b14, .ref b15, .ref b16, .ref b17], zar b0 kb0 8 (fun j => nI (mm 0 j)), zar b1 kb1 8 (fun j => nI (mm 1 j)), zar b2 kb2 40 (fun j => nI (mm 2 j)), zar b3 kb3 40 (fun j => nI (mm 3 j)), zar b4 kb4 40 (fun j => nI (mm 4 j)), zar b5 kb5 40 (fun j => nI (mm 5 j)), zar b6 kb6 40 (fun j => nI (mm 6 j)), zar b7 kb7 40 (fun j => nI (mm 7 j)), zar b8 kb8 40 (fun j => nI (mm 8 j)), zar b9 kb9 40 (fun j => nI (mm 9 j)), zar b10 kb10 40 (fun j => nI (mm 10 j)), zar b11 kb11 40 (fun j => nI (mm 11 j)), zar b12 kb12 12 (fun j => nI (g0 j)), zar b13 kb13 12 (fun j => nI (g1 j)), zar b17 kb17 12 g5] [(kb0, .int), (kb1, .int), (kb2, .int), (kb3, .int), (kb4, .int), (kb5, .int), (kb6, .int), (kb7, .int), (kb8, .int), (kb9, .int), (kb10, .int), (kb11, .int), (kb12, .int), (kb13, .int), (kb17, .int)] (fun _ _ => True) (fun u => match u with | (u0, u1, u5) => (u0, u1) = zFit (mm 7 k) (mm 8 k) gp (mm 2 k) (mm 4 k) (g0, g1)) (fun u => match u with | (u0, u1, u5) => [zob h0 6 [.int (nI mg), .ref b0, .ref b1, .int (nI n), .ref b2, .ref b3, .ref b4, .ref b5, .ref b6, .ref b7, .ref b8, .ref b9, .ref b10, .ref b11, .int (nI rg - nI 1), .int (nI rn), .int (nI ro), .int (nI sp), .int (nI gp), .int (nI fx), .ref b12, .ref b13, .ref b14, .ref b15, .ref b16, .ref b17], zar b0 kb0 8 (fun j => nI (mm 0 j)), zar b1 kb1 8 (fun j => nI (mm 1 j)), zar b2 kb2 40 (fun j => nI (mm 2 j)), zar b3 kb3 40 (fun j => nI (mm 3 j)), zar b4 kb4 40 (fun j => nI (mm 4 j)), zar b5 kb5 40 (fun j => nI (mm 5 j)), zar b6 kb6 40 (fun j => nI (mm 6 j)), zar b7 kb7 40 (fun j => nI (mm 7 j)), zar b8 kb8 40 (fun j => nI (mm 8 j)), zar b9 kb9 40 (fun j => nI (mm 9 j)), zar b10 kb10 40 (fun j => nI (mm 10 j)), zar b11 kb11 40 (fun j => nI (mm 11 j)), zar b12 kb12 12 (fun j => nI (u0 j)), zar b13 kb13 12 (fun j => nI (u1 j)), zar b17 kb17 12 u5]) (fun u => match u with | (u0, u1, u5) => []) 0 0 := by
  refine zw_headv (cc := cMD_measureCell) (maxL := 8) (ret := none) (by decide +kernel) rfl (Nat.le_of_ble_eq_true rfl) ?_
  intro p e s m below meth c ls A F hnm hA hP hK hD hS hX hl
  obtain ⟨hx, hb, hml, hr, hlocks, hown, hts⟩ := F
  have hown : s.vm.findClass "SpannedCellsModel" = some m.cls := hown
  have hz : ∀ w9 ∈ zT, w9.before [.ref h0, .int (nI k)].toArray s = true := fun w9 h => hts w9 (List.mem_cons_of_mem _ h)
  have hl : lv_has ls 8 [(0, .ref h0), (1, .int (nI k))] := hl
  refine z_q (fun Q hQ => ?_)
  have hLk := hL k hk
  have hq7 := hm 7 k
  have hq8 := hm 8 k
  have hG9 : gp * (mm 4 k - 1) ≤ 1000 * 12 := Nat.mul_le_mul (by omega) (by omega)
  have hS0 := zRs_12 (f := g0) (i0 := mm 2 k) (e := mm 2 k + mm 4 k) hLb (by omega)
  have hS1 := zRs_12 (f := g1) (i0 := mm 2 k) (e := mm 2 k + mm 4 k) hMb (by omega)
  have hb0 := hLb (mm 2 k)
  have hb1 := hMb (mm 2 k)
  have e_0 : zRc g0 gp (mm 2 k) (mm 2 k + mm 4 k) = zRs g0 (mm 2 k) (mm 2 k + mm 4 k) + gp * (mm 4 k - 1) := by unfold zRc; rw [show mm 2 k + mm 4 k - mm 2 k - 1 = mm 4 k - 1 by omega]
  have e_1 : zRc g1 gp (mm 2 k) (mm 2 k + mm 4 k) = zRs g1 (mm 2 k) (mm 2 k + mm 4 k) + gp * (mm 4 k - 1) := by unfold zRc; rw [show mm 2 k + mm 4 k - mm 2 k - 1 = mm 4 k - 1 by omega]
  refine lv_aload_n hx hb dMD_measureCell_0 rfl (lv_at hl 0 rfl) ?_
  refine va_get (D := (dC, dI)) (ci := 6) (v := .ref b2) (C := RMD) (T := TMD) (N := 26) hx hb hz in_MD hown hK hP 0 rfl rfl 4 (by decide) (hz _ wd_588) (fun _ h9 => h9) rfl dMD_measureCell_1 ?_
  refine lv_iload_n hx hb dMD_measureCell_4 rfl (lv_at hl 1 rfl) ?_
  refine va_iald hx hb hK hP 3 2 rfl rfl (vp_in_nI (by omega) (by omega)) dMD_measureCell_5 ?_
  refine lv_topi (fun x1 e2 => ?_)
  have e2 : x1 = nI (mm 2 k) := e2.trans (by show nI (mm 2 (nI k).toNatClampNeg) = _; rw [nI_clamp (by omega)])
  subst e2
  refine lv_istore_n hx hb dMD_measureCell_6 rfl hl (Nat.le_of_ble_eq_true rfl) rfl (fun ls hl => ?_)
  have hl : lv_has ls 8 [(2, .int (nI (mm 2 k))), (0, .ref h0), (1, .int (nI k))] := hl
  refine lv_iload_n hx hb dMD_measureCell_7 rfl (lv_at hl 0 rfl) ?_
  refine lv_aload_n hx hb dMD_measureCell_8 rfl (lv_at hl 1 rfl) ?_
  refine va_get (D := (dC, dI)) (ci := 6) (v := .ref b4) (C := RMD) (T := TMD) (N := 26) hx hb hz in_MD hown hK hP 0 rfl rfl 6 (by decide) (hz _ wd_590) (fun _ h9 => h9) rfl dMD_measureCell_9 ?_
  refine lv_iload_n hx hb dMD_measureCell_12 rfl (lv_at hl 2 rfl) ?_
  refine va_iald hx hb hK hP 5 4 rfl rfl (vp_in_nI (by omega) (by omega)) dMD_measureCell_13 ?_
  refine lv_topi (fun x3 e4 => ?_)
  have e4 : x3 = nI (mm 4 k) := e4.trans (by show nI (mm 4 (nI k).toNatClampNeg) = _; rw [nI_clamp (by omega)])
  subst e4
  refine lv_iadd hx hb dMD_measureCell_14 ?_
  refine lv_topi (fun x5 e6 => ?_)
  have e6 : x5 = nI ((mm 2 k) + (mm 4 k)) := e6.trans (nI_add _ _)
  subst e6
  refine lv_istore_n hx hb dMD_measureCell_15 rfl hl (Nat.le_of_ble_eq_true rfl) rfl (fun ls hl => ?_)
  have hl : lv_has ls 8 [(3, .int (nI ((mm 2 k) + (mm 4 k)))), (2, .int (nI (mm 2 k))), (0, .ref h0), (1, .int (nI k))] := hl
  refine lv_aload_n hx hb dMD_measureCell_16 rfl (lv_at hl 2 rfl) ?_
  refine va_get (D := (dC, dI)) (ci := 6) (v := .ref b4) (C := RMD) (T := TMD) (N := 26) hx hb hz in_MD hown hK hP 0 rfl rfl 6 (by decide) (hz _ wd_590) (fun _ h9 => h9) rfl dMD_measureCell_17 ?_
  refine lv_iload_n hx hb dMD_measureCell_20 rfl (lv_at hl 3 rfl) ?_
  refine va_iald hx hb hK hP 5 4 rfl rfl (vp_in_nI (by omega) (by omega)) dMD_measureCell_21 ?_
  refine lv_topi (fun x7 e8 => ?_)
  have e8 : x7 = nI (mm 4 k) := e8.trans (by show nI (mm 4 (nI k).toNatClampNeg) = _; rw [nI_clamp (by omega)])
  subst e8
  refine lv_iconst (v := nI 1) hx hb dMD_measureCell_22 (by decide) ?_
  have t9 := hm 4 k
  have t10 := nI_toInt (n := mm 4 k) (by omega)
  have t11 := nI_toInt (n := 1) (by omega)
  refine lv_icmp_ne (tgt := 69) hx hb dMD_measureCell_23 rfl (fun h_c => ?_) (fun h_c => ?_)
  · have h_c := z_ne h_c
    refine lv_aload_n hx hb dMD_measureCell_69 rfl (lv_at hl 2 rfl) ?_
    refine va_get (D := (dC, dI)) (ci := 6) (v := .int (nI gp)) (C := RMD) (T := TMD) (N := 26) hx hb hz in_MD hown hK hP 0 rfl rfl 18 (by decide) (hz _ wd_602) (fun _ h9 => h9) rfl dMD_measureCell_70 ?_
    refine lv_aload_n hx hb dMD_measureCell_73 rfl (lv_at hl 2 rfl) ?_
    refine va_get (D := (dC, dI)) (ci := 6) (v := .ref b4) (C := RMD) (T := TMD) (N := 26) hx hb hz in_MD hown hK hP 0 rfl rfl 6 (by decide) (hz _ wd_590) (fun _ h9 => h9) rfl dMD_measureCell_74 ?_
    refine lv_iload_n hx hb dMD_measureCell_77 rfl (lv_at hl 3 rfl) ?_
    refine va_iald hx hb hK hP 5 4 rfl rfl (vp_in_nI (by omega) (by omega)) dMD_measureCell_78 ?_
    refine lv_topi (fun x13 e14 => ?_)
    have e14 : x13 = nI (mm 4 k) := e14.trans (by show nI (mm 4 (nI k).toNatClampNeg) = _; rw [nI_clamp (by omega)])
    subst e14
    refine lv_iconst (v := nI 1) hx hb dMD_measureCell_79 (by decide) ?_
    refine lv_isub hx hb dMD_measureCell_80 ?_
    refine lv_topi (fun x15 e16 => ?_)
    have e16 : x15 = nI ((mm 4 k) - 1) := e16.trans (pk_sub (by omega))
    subst e16
    refine lv_imul hx hb dMD_measureCell_81 ?_
    refine lv_topi (fun x17 e18 => ?_)
    have e18 : x17 = nI (gp * ((mm 4 k) - 1)) := e18.trans (pk_mul _ _)
    subst e18
    refine lv_istore hx hb dMD_measureCell_82 hl (Nat.le_of_ble_eq_true rfl) rfl (fun ls hl => ?_)
    have hl : lv_has ls 8 [(4, .int (nI (gp * ((mm 4 k) - 1)))), (3, .int (nI ((mm 2 k) + (mm 4 k)))), (2, .int (nI (mm 2 k))), (0, .ref h0), (1, .int (nI k))] := hl
    refine lv_aload_n hx hb dMD_measureCell_84 rfl (lv_at hl 3 rfl) ?_
    refine lv_aload_n hx hb dMD_measureCell_85 rfl (lv_at hl 3 rfl) ?_
    refine va_get (D := (dC, dI)) (ci := 6) (v := .ref b13) (C := RMD) (T := TMD) (N := 26) hx hb hz in_MD hown hK hP 0 rfl rfl 21 (by decide) (hz _ wd_605) (fun _ h9 => h9) rfl dMD_measureCell_86 ?_
    refine zw_callv (wr := [zar b0 kb0 8 (fun j => nI (mm 0 j)), zar b1 kb1 8 (fun j => nI (mm 1 j)), zar b2 kb2 40 (fun j => nI (mm 2 j)), zar b3 kb3 40 (fun j => nI (mm 3 j)), zar b4 kb4 40 (fun j => nI (mm 4 j)), zar b5 kb5 40 (fun j => nI (mm 5 j)), zar b6 kb6 40 (fun j => nI (mm 6 j)), zar b7 kb7 40 (fun j => nI (mm 7 j)), zar b8 kb8 40 (fun j => nI (mm 8 j)), zar b9 kb9 40 (fun j => nI (mm 9 j)), zar b10 kb10 40 (fun j => nI (mm 10 j)), zar b11 kb11 40 (fun j => nI (mm 11 j)), zar b12 kb12 12 (fun j => nI (g0 j))]) hK hP hD hS hA [0, 15, 14] [1, 2, 3, 4, 5, 6, 7, 8, 9, 10, 11, 12, 13] rfl rfl (by decide) (by decide) (va_runV (As := [.ref b13]) (rest := []) ⟨hx, hb, hml, hown, hz⟩ ((x_MD_weigh l dC dI h0 b0 b1 b2 b3 b4 b5 b6 b7 b8 b9 b10 b11 b12 b13 b14 b15 b16 b17 mg n _ rn ro sp gp fx kb17 g5 b13 kb13 g1 ) s.heap.size) (cwV 1 hz (z_gV wd_758 wd_760 wd_22 wd_37 wd_761) rfl rfl rfl (by decide +kernel) ⟨Nat.le_of_ble_eq_true rfl, Nat.le_of_ble_eq_true rfl⟩) (zw_preV (q0 := 0) (q := (RMD, TMD, 26)) hK hP hD rfl rfl [0, 15, 14] (by decide) rfl [14, 13] rfl z_true (fun _ _ _ => trivial)) rfl rfl hl.1 rfl (lv_room (Nat.le_of_ble_eq_true rfl)) dMD_measureCell_89 ⟨Nat.le_of_ble_eq_true rfl, Nat.le_of_ble_eq_true rfl⟩) (fun u H locs h_r19 hP hD hK hS => ?_)
    have hP : va_P (dC, dI) vwCl [zob h0 6 [.int (nI mg), .ref b0, .ref b1, .int (nI n), .ref b2, .ref b3, .ref b4, .ref b5, .ref b6, .ref b7, .ref b8, .ref b9, .ref b10, .ref b11, .int (nI rg - nI 1), .int (nI rn), .int (nI ro), .int (nI sp), .int (nI gp), .int (nI fx), .ref b12, .ref b13, .ref b14, .ref b15, .ref b16, .ref b17], zar b0 kb0 8 (fun j => nI (mm 0 j)), zar b1 kb1 8 (fun j => nI (mm 1 j)), zar b2 kb2 40 (fun j => nI (mm 2 j)), zar b3 kb3 40 (fun j => nI (mm 3 j)), zar b4 kb4 40 (fun j => nI (mm 4 j)), zar b5 kb5 40 (fun j => nI (mm 5 j)), zar b6 kb6 40 (fun j => nI (mm 6 j)), zar b7 kb7 40 (fun j => nI (mm 7 j)), zar b8 kb8 40 (fun j => nI (mm 8 j)), zar b9 kb9 40 (fun j => nI (mm 9 j)), zar b10 kb10 40 (fun j => nI (mm 10 j)), zar b11 kb11 40 (fun j => nI (mm 11 j)), zar b12 kb12 12 (fun j => nI (g0 j)), zar b13 kb13 12 (fun j => nI (g1 j)), zar b17 kb17 12 (fun j => nI (g1 j))] H := hP.sub [13, 0, 1, 2, 3, 4, 5, 6, 7, 8, 9, 10, 11, 12, 15, 14] rfl
    have hD : va_D A [zob h0 6 [.int (nI mg), .ref b0, .ref b1, .int (nI n), .ref b2, .ref b3, .ref b4, .ref b5, .ref b6, .ref b7, .ref b8, .ref b9, .ref b10, .ref b11, .int (nI rg - nI 1), .int (nI rn), .int (nI ro), .int (nI sp), .int (nI gp), .int (nI fx), .ref b12, .ref b13, .ref b14, .ref b15, .ref b16, .ref b17], zar b0 kb0 8 (fun j => nI (mm 0 j)), zar b1 kb1 8 (fun j => nI (mm 1 j)), zar b2 kb2 40 (fun j => nI (mm 2 j)), zar b3 kb3 40 (fun j => nI (mm 3 j)), zar b4 kb4 40 (fun j => nI (mm 4 j)), zar b5 kb5 40 (fun j => nI (mm 5 j)), zar b6 kb6 40 (fun j => nI (mm 6 j)), zar b7 kb7 40 (fun j => nI (mm 7 j)), zar b8 kb8 40 (fun j => nI (mm 8 j)), zar b9 kb9 40 (fun j => nI (mm 9 j)), zar b10 kb10 40 (fun j => nI (mm 10 j)), zar b11 kb11 40 (fun j => nI (mm 11 j)), zar b12 kb12 12 (fun j => nI (g0 j)), zar b13 kb13 12 (fun j => nI (g1 j)), zar b17 kb17 12 (fun j => nI (g1 j))] := hD.sub [13, 0, 1, 2, 3, 4, 5, 6, 7, 8, 9, 10, 11, 12, 15, 14] (by decide) rfl
    have hK : va_K (dC, dI) vwCl [(kb0, .int), (kb1, .int), (kb2, .int), (kb3, .int), (kb4, .int), (kb5, .int), (kb6, .int), (kb7, .int), (kb8, .int), (kb9, .int), (kb10, .int), (kb11, .int), (kb12, .int), (kb13, .int), (kb17, .int)] s := hK
    refine lv_aload_n hx hb dMD_measureCell_92 rfl (lv_at hl 3 rfl) ?_
    refine va_get (D := (dC, dI)) (ci := 6) (v := .ref b7) (C := RMD) (T := TMD) (N := 26) hx hb hz in_MD hown hK hP 0 rfl rfl 9 (by decide) (hz _ wd_593) (fun _ h9 => h9) rfl dMD_measureCell_93 ?_
    refine lv_iload_n hx hb dMD_measureCell_96 rfl (lv_at hl 4 rfl) ?_
    refine va_iald hx hb hK hP 8 7 rfl rfl (vp_in_nI (by omega) (by omega)) dMD_measureCell_97 ?_
    refine lv_topi (fun x20 e21 => ?_)
    have e21 : x20 = nI (mm 7 k) := e21.trans (by show nI (mm 7 (nI k).toNatClampNeg) = _; rw [nI_clamp (by omega)])
    subst e21
    refine lv_aload_n hx hb dMD_measureCell_98 rfl (lv_at hl 3 rfl) ?_
    refine va_get (D := (dC, dI)) (ci := 6) (v := .ref b12) (C := RMD) (T := TMD) (N := 26) hx hb hz in_MD hown hK hP 0 rfl rfl 20 (by decide) (hz _ wd_604) (fun _ h9 => h9) rfl dMD_measureCell_99 ?_
    refine lv_iload_n hx hb dMD_measureCell_102 rfl (lv_at hl 2 rfl) ?_
    refine lv_iload_n hx hb dMD_measureCell_103 rfl (lv_at hl 1 rfl) ?_
    refine vp_callSi (W.runS (As := [.ref b12, .int (nI (mm 2 k)), .int (nI ((mm 2 k) + (mm 4 k)))]) (rest := [.int (nI (mm 7 k))]) ⟨hx, hb, hml, hown, hz⟩ (x_MD_sumOf l dC dI b12 kb12 g0 (mm 2 k) ((mm 2 k) + (mm 4 k)) (by omega) (by omega)) (va_cwS 3 hz (z_gS wd_762 wd_763 wd_37 wd_764) rfl rfl rfl (by decide +kernel) ⟨Nat.le_of_ble_eq_true rfl, Nat.le_of_ble_eq_true rfl⟩) (zr_preS hK (hP.sub [13] rfl) [12] rfl z_true (fun _ _ _ => trivial)) rfl rfl hl.1 rfl (lv_room (Nat.le_of_ble_eq_true rfl)) dMD_measureCell_104 ⟨Nat.le_of_ble_eq_true rfl, Nat.le_of_ble_eq_true rfl⟩) (fun r22 h_r22 => ?_)
    have h_r22 : r22 = nI (zRs g0 (mm 2 k) ((mm 2 k) + (mm 4 k))) := h_r22
    subst h_r22
    refine lv_isub hx hb dMD_measureCell_107 ?_
    refine lv_iload hx hb dMD_measureCell_108 (lv_at hl 0 rfl) ?_
    refine lv_isub hx hb dMD_measureCell_110 ?_
    refine lv_topi (fun x23 e24 => ?_)
    have e24 : x23 = nI (mm 7 k) - nI (zRs g0 (mm 2 k) (mm 2 k + mm 4 k) + gp * (mm 4 k - 1)) := e24.trans ((Int32.sub_sub _ _ _).trans (by rw [nI_add]))
    subst e24
    refine lv_istore hx hb dMD_measureCell_111 hl (Nat.le_of_ble_eq_true rfl) rfl (fun ls hl => ?_)
    have hl : lv_has ls 8 [(5, .int (nI (mm 7 k) - nI (zRs g0 (mm 2 k) (mm 2 k + mm 4 k) + gp * (mm 4 k - 1)))), (4, .int (nI (gp * ((mm 4 k) - 1)))), (3, .int (nI ((mm 2 k) + (mm 4 k)))), (2, .int (nI (mm 2 k))), (0, .ref h0), (1, .int (nI k))] := hl
    refine lv_aload_n hx hb dMD_measureCell_113 rfl (lv_at hl 4 rfl) ?_
    refine va_get (D := (dC, dI)) (ci := 6) (v := .ref b8) (C := RMD) (T := TMD) (N := 26) hx hb hz in_MD hown hK hP 0 rfl rfl 10 (by decide) (hz _ wd_594) (fun _ h9 => h9) rfl dMD_measureCell_114 ?_
    refine lv_iload_n hx hb dMD_measureCell_117 rfl (lv_at hl 5 rfl) ?_
    refine va_iald hx hb hK hP 9 8 rfl rfl (vp_in_nI (by omega) (by omega)) dMD_measureCell_118 ?_
    refine lv_topi (fun x25 e26 => ?_)
    have e26 : x25 = nI (mm 8 k) := e26.trans (by show nI (mm 8 (nI k).toNatClampNeg) = _; rw [nI_clamp (by omega)])
    subst e26
    refine lv_aload_n hx hb dMD_measureCell_119 rfl (lv_at hl 4 rfl) ?_
    refine va_get (D := (dC, dI)) (ci := 6) (v := .ref b13) (C := RMD) (T := TMD) (N := 26) hx hb hz in_MD hown hK hP 0 rfl rfl 21 (by decide) (hz _ wd_605) (fun _ h9 => h9) rfl dMD_measureCell_120 ?_
    refine lv_iload_n hx hb dMD_measureCell_123 rfl (lv_at hl 3 rfl) ?_
    refine lv_iload_n hx hb dMD_measureCell_124 rfl (lv_at hl 2 rfl) ?_
    refine vp_callSi (W.runS (As := [.ref b13, .int (nI (mm 2 k)), .int (nI ((mm 2 k) + (mm 4 k)))]) (rest := [.int (nI (mm 8 k))]) ⟨hx, hb, hml, hown, hz⟩ (x_MD_sumOf l dC dI b13 kb13 g1 (mm 2 k) ((mm 2 k) + (mm 4 k)) (by omega) (by omega)) (va_cwS 3 hz (z_gS wd_762 wd_763 wd_37 wd_764) rfl rfl rfl (by decide +kernel) ⟨Nat.le_of_ble_eq_true rfl, Nat.le_of_ble_eq_true rfl⟩) (zr_preS hK (hP.sub [14] rfl) [13] rfl z_true (fun _ _ _ => trivial)) rfl rfl hl.1 rfl (lv_room (Nat.le_of_ble_eq_true rfl)) dMD_measureCell_125 ⟨Nat.le_of_ble_eq_true rfl, Nat.le_of_ble_eq_true rfl⟩) (fun r27 h_r27 => ?_)
    have h_r27 : r27 = nI (zRs g1 (mm 2 k) ((mm 2 k) + (mm 4 k))) := h_r27
    subst h_r27
    refine lv_isub hx hb dMD_measureCell_128 ?_
    refine lv_iload hx hb dMD_measureCell_129 (lv_at hl 1 rfl) ?_
    refine lv_isub hx hb dMD_measureCell_131 ?_
    refine lv_topi (fun x28 e29 => ?_)
    have e29 : x28 = nI (mm 8 k) - nI (zRs g1 (mm 2 k) (mm 2 k + mm 4 k) + gp * (mm 4 k - 1)) := e29.trans ((Int32.sub_sub _ _ _).trans (by rw [nI_add]))
    subst e29
    refine lv_istore hx hb dMD_measureCell_132 hl (Nat.le_of_ble_eq_true rfl) rfl (fun ls hl => ?_)
    have hl : lv_has ls 8 [(6, .int (nI (mm 8 k) - nI (zRs g1 (mm 2 k) (mm 2 k + mm 4 k) + gp * (mm 4 k - 1)))), (5, .int (nI (mm 7 k) - nI (zRs g0 (mm 2 k) (mm 2 k + mm 4 k) + gp * (mm 4 k - 1)))), (4, .int (nI (gp * ((mm 4 k) - 1)))), (3, .int (nI ((mm 2 k) + (mm 4 k)))), (2, .int (nI (mm 2 k))), (0, .ref h0), (1, .int (nI k))] := hl
    refine lv_iload hx hb dMD_measureCell_134 (lv_at hl 1 rfl) ?_
    have t30 := pk_sub_toInt (a := mm 7 k) (b := zRs g0 (mm 2 k) (mm 2 k + mm 4 k) + gp * (mm 4 k - 1)) (by omega) (by omega)
    have t31 : (0 : Int32).toInt = 0 := by decide
    refine lv_if_le (tgt := 151) hx hb dMD_measureCell_136 rfl (fun h_lo => ?_) (fun h_lo => ?_)
    · have h_lo := z_le h_lo
      refine lv_iload hx hb dMD_measureCell_151 (lv_at hl 0 rfl) ?_
      have t33 := pk_sub_toInt (a := mm 8 k) (b := zRs g1 (mm 2 k) (mm 2 k + mm 4 k) + gp * (mm 4 k - 1)) (by omega) (by omega)
      have t34 : (0 : Int32).toInt = 0 := by decide
      refine lv_if_le (tgt := 168) hx hb dMD_measureCell_153 rfl (fun h_hi => ?_) (fun h_hi => ?_)
      · have h_hi := z_le h_hi
        refine lv_iload_n hx hb dMD_measureCell_168 rfl (lv_at hl 4 rfl) ?_
        refine lv_istore hx hb dMD_measureCell_169 hl (Nat.le_of_ble_eq_true rfl) rfl (fun ls hl => ?_)
        have hl : lv_has ls 8 [(7, .int (nI (mm 2 k))), (6, .int (nI (mm 8 k) - nI (zRs g1 (mm 2 k) (mm 2 k + mm 4 k) + gp * (mm 4 k - 1)))), (5, .int (nI (mm 7 k) - nI (zRs g0 (mm 2 k) (mm 2 k + mm 4 k) + gp * (mm 4 k - 1)))), (4, .int (nI (gp * ((mm 4 k) - 1)))), (3, .int (nI ((mm 2 k) + (mm 4 k)))), (2, .int (nI (mm 2 k))), (0, .ref h0), (1, .int (nI k))] := hl
        refine zl_upW (σ := Unit) (mm 2 k + mm 4 k) (fun i x9 ls H locs => lv_has ls 8 [(7, .int (nI i)), (3, .int (nI (mm 2 k + mm 4 k))), (2, .int (nI (mm 2 k))), (1, .int (nI k)), (0, .ref h0)] ∧ (mm 2 k ≤ i) ∧ va_P (dC, dI) vwCl [zob h0 6 [.int (nI mg), .ref b0, .ref b1, .int (nI n), .ref b2, .ref b3, .ref b4, .ref b5, .ref b6, .ref b7, .ref b8, .ref b9, .ref b10, .ref b11, .int (nI rg - nI 1), .int (nI rn), .int (nI ro), .int (nI sp), .int (nI gp), .int (nI fx), .ref b12, .ref b13, .ref b14, .ref b15, .ref b16, .ref b17], zar b0 kb0 8 (fun j => nI (mm 0 j)), zar b1 kb1 8 (fun j => nI (mm 1 j)), zar b2 kb2 40 (fun j => nI (mm 2 j)), zar b3 kb3 40 (fun j => nI (mm 3 j)), zar b4 kb4 40 (fun j => nI (mm 4 j)), zar b5 kb5 40 (fun j => nI (mm 5 j)), zar b6 kb6 40 (fun j => nI (mm 6 j)), zar b7 kb7 40 (fun j => nI (mm 7 j)), zar b8 kb8 40 (fun j => nI (mm 8 j)), zar b9 kb9 40 (fun j => nI (mm 9 j)), zar b10 kb10 40 (fun j => nI (mm 10 j)), zar b11 kb11 40 (fun j => nI (mm 11 j)), zar b12 kb12 12 (fun j => nI (g0 j)), zar b13 kb13 12 (fun j => nI (zRz g1 g0 (mm 2 k) i j)), zar b17 kb17 12 (fun j => nI (g1 j))] H ∧ va_D A [zob h0 6 [.int (nI mg), .ref b0, .ref b1, .int (nI n), .ref b2, .ref b3, .ref b4, .ref b5, .ref b6, .ref b7, .ref b8, .ref b9, .ref b10, .ref b11, .int (nI rg - nI 1), .int (nI rn), .int (nI ro), .int (nI sp), .int (nI gp), .int (nI fx), .ref b12, .ref b13, .ref b14, .ref b15, .ref b16, .ref b17], zar b0 kb0 8 (fun j => nI (mm 0 j)), zar b1 kb1 8 (fun j => nI (mm 1 j)), zar b2 kb2 40 (fun j => nI (mm 2 j)), zar b3 kb3 40 (fun j => nI (mm 3 j)), zar b4 kb4 40 (fun j => nI (mm 4 j)), zar b5 kb5 40 (fun j => nI (mm 5 j)), zar b6 kb6 40 (fun j => nI (mm 6 j)), zar b7 kb7 40 (fun j => nI (mm 7 j)), zar b8 kb8 40 (fun j => nI (mm 8 j)), zar b9 kb9 40 (fun j => nI (mm 9 j)), zar b10 kb10 40 (fun j => nI (mm 10 j)), zar b11 kb11 40 (fun j => nI (mm 11 j)), zar b12 kb12 12 (fun j => nI (g0 j)), zar b13 kb13 12 (fun j => nI (zRz g1 g0 (mm 2 k) i j)), zar b17 kb17 12 (fun j => nI (g1 j))] ∧ va_S A s.heap H locs) ?_ ?_ (mm 2 k) (by omega) () ls H locs ⟨lv_sub hl [0, 4, 5, 7, 6] rfl, Nat.le_refl _, by rw [zRz_0]; exact hP, by rw [zRz_0]; exact hD, hS⟩
        · intro x9 ls H locs hI
          obtain ⟨hl, hxI, hP, hD, hS⟩ := hI
          have hl : lv_has ls 8 [(7, .int (nI (mm 2 k + mm 4 k))), (3, .int (nI (mm 2 k + mm 4 k))), (2, .int (nI (mm 2 k))), (1, .int (nI k)), (0, .ref h0)] := hl
          have hP : va_P (dC, dI) vwCl [zob h0 6 [.int (nI mg), .ref b0, .ref b1, .int (nI n), .ref b2, .ref b3, .ref b4, .ref b5, .ref b6, .ref b7, .ref b8, .ref b9, .ref b10, .ref b11, .int (nI rg - nI 1), .int (nI rn), .int (nI ro), .int (nI sp), .int (nI gp), .int (nI fx), .ref b12, .ref b13, .ref b14, .ref b15, .ref b16, .ref b17], zar b0 kb0 8 (fun j => nI (mm 0 j)), zar b1 kb1 8 (fun j => nI (mm 1 j)), zar b2 kb2 40 (fun j => nI (mm 2 j)), zar b3 kb3 40 (fun j => nI (mm 3 j)), zar b4 kb4 40 (fun j => nI (mm 4 j)), zar b5 kb5 40 (fun j => nI (mm 5 j)), zar b6 kb6 40 (fun j => nI (mm 6 j)), zar b7 kb7 40 (fun j => nI (mm 7 j)), zar b8 kb8 40 (fun j => nI (mm 8 j)), zar b9 kb9 40 (fun j => nI (mm 9 j)), zar b10 kb10 40 (fun j => nI (mm 10 j)), zar b11 kb11 40 (fun j => nI (mm 11 j)), zar b12 kb12 12 (fun j => nI (g0 j)), zar b13 kb13 12 (fun j => nI (zRz g1 g0 (mm 2 k) (mm 2 k + mm 4 k) j)), zar b17 kb17 12 (fun j => nI (g1 j))] H := hP
          have hD : va_D A [zob h0 6 [.int (nI mg), .ref b0, .ref b1, .int (nI n), .ref b2, .ref b3, .ref b4, .ref b5, .ref b6, .ref b7, .ref b8, .ref b9, .ref b10, .ref b11, .int (nI rg - nI 1), .int (nI rn), .int (nI ro), .int (nI sp), .int (nI gp), .int (nI fx), .ref b12, .ref b13, .ref b14, .ref b15, .ref b16, .ref b17], zar b0 kb0 8 (fun j => nI (mm 0 j)), zar b1 kb1 8 (fun j => nI (mm 1 j)), zar b2 kb2 40 (fun j => nI (mm 2 j)), zar b3 kb3 40 (fun j => nI (mm 3 j)), zar b4 kb4 40 (fun j => nI (mm 4 j)), zar b5 kb5 40 (fun j => nI (mm 5 j)), zar b6 kb6 40 (fun j => nI (mm 6 j)), zar b7 kb7 40 (fun j => nI (mm 7 j)), zar b8 kb8 40 (fun j => nI (mm 8 j)), zar b9 kb9 40 (fun j => nI (mm 9 j)), zar b10 kb10 40 (fun j => nI (mm 10 j)), zar b11 kb11 40 (fun j => nI (mm 11 j)), zar b12 kb12 12 (fun j => nI (g0 j)), zar b13 kb13 12 (fun j => nI (zRz g1 g0 (mm 2 k) (mm 2 k + mm 4 k) j)), zar b17 kb17 12 (fun j => nI (g1 j))] := hD
          refine lv_iload hx hb dMD_measureCell_171 (lv_at hl 0 rfl) ?_
          refine lv_iload_n hx hb dMD_measureCell_173 rfl (lv_at hl 1 rfl) ?_
          have t36 := hm 2 k
          have t37 := hm 4 k
          have t38 := nI_toInt (n := mm 2 k + mm 4 k) (by omega)
          have t39 := hm 2 k
          have t40 := hm 4 k
          have t41 := nI_toInt (n := mm 2 k + mm 4 k) (by omega)
          refine lv_icmp_ge (tgt := 207) hx hb dMD_measureCell_174 rfl (fun _ => ?_) (fun h => by have h := z_nle h; omega)
          subst hQ
          exact zw_vret (D := (dC, dI)) (cl := vwCl) (A := A) (g0, zRz g1 g0 (mm 2 k) (mm 2 k + mm 4 k), fun j => nI (g1 j)) hx hb hr hlocks (z_fitof ((zStr_F (by omega)).symm) ((zStr_F (by omega)).symm)) (hP.sub [0, 1, 2, 3, 4, 5, 6, 7, 8, 9, 10, 11, 12, 13, 14, 15] rfl) (hK.sub [] rfl) (hD.sub [0, 1, 2, 3, 4, 5, 6, 7, 8, 9, 10, 11, 12, 13, 14, 15] (by decide) rfl) hS dMD_measureCell_207
        · intro i hi ih
          intro x9 ls H locs hI
          obtain ⟨hl, hxI, hP, hD, hS⟩ := hI
          have hl : lv_has ls 8 [(7, .int (nI i)), (3, .int (nI (mm 2 k + mm 4 k))), (2, .int (nI (mm 2 k))), (1, .int (nI k)), (0, .ref h0)] := hl
          have hP : va_P (dC, dI) vwCl [zob h0 6 [.int (nI mg), .ref b0, .ref b1, .int (nI n), .ref b2, .ref b3, .ref b4, .ref b5, .ref b6, .ref b7, .ref b8, .ref b9, .ref b10, .ref b11, .int (nI rg - nI 1), .int (nI rn), .int (nI ro), .int (nI sp), .int (nI gp), .int (nI fx), .ref b12, .ref b13, .ref b14, .ref b15, .ref b16, .ref b17], zar b0 kb0 8 (fun j => nI (mm 0 j)), zar b1 kb1 8 (fun j => nI (mm 1 j)), zar b2 kb2 40 (fun j => nI (mm 2 j)), zar b3 kb3 40 (fun j => nI (mm 3 j)), zar b4 kb4 40 (fun j => nI (mm 4 j)), zar b5 kb5 40 (fun j => nI (mm 5 j)), zar b6 kb6 40 (fun j => nI (mm 6 j)), zar b7 kb7 40 (fun j => nI (mm 7 j)), zar b8 kb8 40 (fun j => nI (mm 8 j)), zar b9 kb9 40 (fun j => nI (mm 9 j)), zar b10 kb10 40 (fun j => nI (mm 10 j)), zar b11 kb11 40 (fun j => nI (mm 11 j)), zar b12 kb12 12 (fun j => nI (g0 j)), zar b13 kb13 12 (fun j => nI (zRz g1 g0 (mm 2 k) i j)), zar b17 kb17 12 (fun j => nI (g1 j))] H := hP
          have hD : va_D A [zob h0 6 [.int (nI mg), .ref b0, .ref b1, .int (nI n), .ref b2, .ref b3, .ref b4, .ref b5, .ref b6, .ref b7, .ref b8, .ref b9, .ref b10, .ref b11, .int (nI rg - nI 1), .int (nI rn), .int (nI ro), .int (nI sp), .int (nI gp), .int (nI fx), .ref b12, .ref b13, .ref b14, .ref b15, .ref b16, .ref b17], zar b0 kb0 8 (fun j => nI (mm 0 j)), zar b1 kb1 8 (fun j => nI (mm 1 j)), zar b2 kb2 40 (fun j => nI (mm 2 j)), zar b3 kb3 40 (fun j => nI (mm 3 j)), zar b4 kb4 40 (fun j => nI (mm 4 j)), zar b5 kb5 40 (fun j => nI (mm 5 j)), zar b6 kb6 40 (fun j => nI (mm 6 j)), zar b7 kb7 40 (fun j => nI (mm 7 j)), zar b8 kb8 40 (fun j => nI (mm 8 j)), zar b9 kb9 40 (fun j => nI (mm 9 j)), zar b10 kb10 40 (fun j => nI (mm 10 j)), zar b11 kb11 40 (fun j => nI (mm 11 j)), zar b12 kb12 12 (fun j => nI (g0 j)), zar b13 kb13 12 (fun j => nI (zRz g1 g0 (mm 2 k) i j)), zar b17 kb17 12 (fun j => nI (g1 j))] := hD
          refine lv_iload hx hb dMD_measureCell_171 (lv_at hl 0 rfl) ?_
          refine lv_iload_n hx hb dMD_measureCell_173 rfl (lv_at hl 1 rfl) ?_
          have t42 := nI_toInt (n := i) (by omega)
          have t43 := hm 2 k
          have t44 := hm 4 k
          have t45 := nI_toInt (n := mm 2 k + mm 4 k) (by omega)
          refine lv_icmp_ge (tgt := 207) hx hb dMD_measureCell_174 rfl (fun h => by have h := z_le h; omega) (fun _ => ?_)
          refine lv_aload_n hx hb dMD_measureCell_177 rfl (lv_at hl 4 rfl) ?_
          refine va_get (D := (dC, dI)) (ci := 6) (v := .ref b13) (C := RMD) (T := TMD) (N := 26) hx hb hz in_MD hown hK hP 0 rfl rfl 21 (by decide) (hz _ wd_605) (fun _ h9 => h9) rfl dMD_measureCell_178 ?_
          refine lv_iload hx hb dMD_measureCell_181 (lv_at hl 0 rfl) ?_
          refine lv_aload_n hx hb dMD_measureCell_183 rfl (lv_at hl 4 rfl) ?_
          refine va_get (D := (dC, dI)) (ci := 6) (v := .ref b13) (C := RMD) (T := TMD) (N := 26) hx hb hz in_MD hown hK hP 0 rfl rfl 21 (by decide) (hz _ wd_605) (fun _ h9 => h9) rfl dMD_measureCell_184 ?_
          refine lv_iload hx hb dMD_measureCell_187 (lv_at hl 0 rfl) ?_
          refine va_iald hx hb hK hP 14 13 rfl rfl (vp_in_nI (by omega) (by omega)) dMD_measureCell_189 ?_
          refine lv_topi (fun x46 e47 => ?_)
          have e47 : x46 = nI (g1 i) := e47.trans (by show nI (zRz g1 g0 (mm 2 k) i (nI i).toNatClampNeg) = _; rw [nI_clamp (by omega), zRz_at])
          subst e47
          refine lv_aload_n hx hb dMD_measureCell_190 rfl (lv_at hl 4 rfl) ?_
          refine va_get (D := (dC, dI)) (ci := 6) (v := .ref b12) (C := RMD) (T := TMD) (N := 26) hx hb hz in_MD hown hK hP 0 rfl rfl 20 (by decide) (hz _ wd_604) (fun _ h9 => h9) rfl dMD_measureCell_191 ?_
          refine lv_iload hx hb dMD_measureCell_194 (lv_at hl 0 rfl) ?_
          refine va_iald hx hb hK hP 13 12 rfl rfl (vp_in_nI (by omega) (by omega)) dMD_measureCell_196 ?_
          refine lv_topi (fun x48 e49 => ?_)
          have e49 : x48 = nI (g0 i) := e49.trans (by show nI (g0 (nI i).toNatClampNeg) = _; rw [nI_clamp (by omega)])
          subst e49
          have hx1 : g1 i ≤ 40000 := by have := hMb i; omega
          have hx0 : g0 i ≤ 40000 := by have := hLb i; omega
          refine vp_callSi (W.runS (As := [.int (nI (g1 i)), .int (nI (g0 i))]) (rest := [.int (nI i), .ref b13]) ⟨hx, hb, hml, hown, hz⟩ (x_MD_greater l dC dI (g1 i) (g0 i) (by omega)) (va_cwS 2 hz (z_gS wd_755 wd_756 wd_37 wd_757) rfl rfl rfl (by decide +kernel) ⟨Nat.le_of_ble_eq_true rfl, Nat.le_of_ble_eq_true rfl⟩) (zr_preS hK (hP.sub [] rfl) [] rfl z_true (fun _ _ _ => trivial)) rfl rfl hl.1 rfl (lv_room (Nat.le_of_ble_eq_true rfl)) dMD_measureCell_197 ⟨Nat.le_of_ble_eq_true rfl, Nat.le_of_ble_eq_true rfl⟩) (fun r50 h_r50 => ?_)
          have h_r50 : r50 = nI (if (g1 i) < (g0 i) then (g0 i) else (g1 i)) := h_r50
          subst h_r50
          refine va_iast hx hb hK hP hD hS 14 13 rfl rfl (vp_in_nI (by omega) (by omega)) dMD_measureCell_200 (fun H locs hP hD hS => ?_)
          have e_u := z_upd (f := zRz g1 g0 (mm 2 k) i) (k := i) (v := if (g1 i) < (g0 i) then (g0 i) else (g1 i)) (by omega)
          have hP : va_P (dC, dI) vwCl [zob h0 6 [.int (nI mg), .ref b0, .ref b1, .int (nI n), .ref b2, .ref b3, .ref b4, .ref b5, .ref b6, .ref b7, .ref b8, .ref b9, .ref b10, .ref b11, .int (nI rg - nI 1), .int (nI rn), .int (nI ro), .int (nI sp), .int (nI gp), .int (nI fx), .ref b12, .ref b13, .ref b14, .ref b15, .ref b16, .ref b17], zar b0 kb0 8 (fun j => nI (mm 0 j)), zar b1 kb1 8 (fun j => nI (mm 1 j)), zar b2 kb2 40 (fun j => nI (mm 2 j)), zar b3 kb3 40 (fun j => nI (mm 3 j)), zar b4 kb4 40 (fun j => nI (mm 4 j)), zar b5 kb5 40 (fun j => nI (mm 5 j)), zar b6 kb6 40 (fun j => nI (mm 6 j)), zar b7 kb7 40 (fun j => nI (mm 7 j)), zar b8 kb8 40 (fun j => nI (mm 8 j)), zar b9 kb9 40 (fun j => nI (mm 9 j)), zar b10 kb10 40 (fun j => nI (mm 10 j)), zar b11 kb11 40 (fun j => nI (mm 11 j)), zar b12 kb12 12 (fun j => nI (g0 j)), zar b13 kb13 12 (fun j => nI (va_up (zRz g1 g0 (mm 2 k) i) i (if (g1 i) < (g0 i) then (g0 i) else (g1 i)) j)), zar b17 kb17 12 (fun j => nI (g1 j))] H := by rw [← e_u]; exact hP
          have hD : va_D A [zob h0 6 [.int (nI mg), .ref b0, .ref b1, .int (nI n), .ref b2, .ref b3, .ref b4, .ref b5, .ref b6, .ref b7, .ref b8, .ref b9, .ref b10, .ref b11, .int (nI rg - nI 1), .int (nI rn), .int (nI ro), .int (nI sp), .int (nI gp), .int (nI fx), .ref b12, .ref b13, .ref b14, .ref b15, .ref b16, .ref b17], zar b0 kb0 8 (fun j => nI (mm 0 j)), zar b1 kb1 8 (fun j => nI (mm 1 j)), zar b2 kb2 40 (fun j => nI (mm 2 j)), zar b3 kb3 40 (fun j => nI (mm 3 j)), zar b4 kb4 40 (fun j => nI (mm 4 j)), zar b5 kb5 40 (fun j => nI (mm 5 j)), zar b6 kb6 40 (fun j => nI (mm 6 j)), zar b7 kb7 40 (fun j => nI (mm 7 j)), zar b8 kb8 40 (fun j => nI (mm 8 j)), zar b9 kb9 40 (fun j => nI (mm 9 j)), zar b10 kb10 40 (fun j => nI (mm 10 j)), zar b11 kb11 40 (fun j => nI (mm 11 j)), zar b12 kb12 12 (fun j => nI (g0 j)), zar b13 kb13 12 (fun j => nI (va_up (zRz g1 g0 (mm 2 k) i) i (if (g1 i) < (g0 i) then (g0 i) else (g1 i)) j)), zar b17 kb17 12 (fun j => nI (g1 j))] := by rw [← e_u]; exact hD
          refine lv_iinc (k := 0) (v := nI (i + 1)) hx hb dMD_measureCell_201 hl rfl (by rw [show Int32.ofInt 1 = nI 1 from by decide]; exact nI_add _ _) (Nat.le_of_ble_eq_true rfl) rfl (fun ls hl => ?_)
          have hl : lv_has ls 8 [(7, .int (nI (i + 1))), (3, .int (nI (mm 2 k + mm 4 k))), (2, .int (nI (mm 2 k))), (1, .int (nI k)), (0, .ref h0)] := hl
          refine lv_goto (tgt := 171) hx hb dMD_measureCell_204 rfl ?_
          rw [zRz_s (by omega)] at hP hD
          exact ih () ls H locs ⟨lv_sub hl [0, 1, 2, 3, 4] rfl, by omega, hP, hD, hS⟩
      · have h_hi := z_nle h_hi
        refine lv_aload_n hx hb dMD_measureCell_156 rfl (lv_at hl 5 rfl) ?_
        refine lv_iload hx hb dMD_measureCell_157 (lv_at hl 0 rfl) ?_
        refine lv_topi (fun x51 e52 => ?_)
        have e52 : x51 = nI (mm 8 k - (zRs g1 (mm 2 k) (mm 2 k + mm 4 k) + gp * (mm 4 k - 1))) := e52.trans (pk_sub (by omega))
        subst e52
        refine lv_aload_n hx hb dMD_measureCell_159 rfl (lv_at hl 5 rfl) ?_
        refine va_get (D := (dC, dI)) (ci := 6) (v := .ref b13) (C := RMD) (T := TMD) (N := 26) hx hb hz in_MD hown hK hP 0 rfl rfl 21 (by decide) (hz _ wd_605) (fun _ h9 => h9) rfl dMD_measureCell_160 ?_
        refine lv_iload_n hx hb dMD_measureCell_163 rfl (lv_at hl 4 rfl) ?_
        refine lv_iload_n hx hb dMD_measureCell_164 rfl (lv_at hl 3 rfl) ?_
        refine zw_callv (wr := [zar b0 kb0 8 (fun j => nI (mm 0 j)), zar b1 kb1 8 (fun j => nI (mm 1 j)), zar b2 kb2 40 (fun j => nI (mm 2 j)), zar b3 kb3 40 (fun j => nI (mm 3 j)), zar b4 kb4 40 (fun j => nI (mm 4 j)), zar b5 kb5 40 (fun j => nI (mm 5 j)), zar b6 kb6 40 (fun j => nI (mm 6 j)), zar b7 kb7 40 (fun j => nI (mm 7 j)), zar b8 kb8 40 (fun j => nI (mm 8 j)), zar b9 kb9 40 (fun j => nI (mm 9 j)), zar b10 kb10 40 (fun j => nI (mm 10 j)), zar b11 kb11 40 (fun j => nI (mm 11 j)), zar b12 kb12 12 (fun j => nI (g0 j))]) hK hP hD hS hA [0, 15, 14] [1, 2, 3, 4, 5, 6, 7, 8, 9, 10, 11, 12, 13] rfl rfl (by decide) (by decide) (va_runV (As := [.int (nI (mm 8 k - (zRs g1 (mm 2 k) (mm 2 k + mm 4 k) + gp * (mm 4 k - 1)))), .ref b13, .int (nI (mm 2 k)), .int (nI ((mm 2 k) + (mm 4 k)))]) (rest := []) ⟨hx, hb, hml, hown, hz⟩ ((x_MD_share l dC dI h0 b0 b1 b2 b3 b4 b5 b6 b7 b8 b9 b10 b11 b12 b13 b14 b15 b16 b17 mg n _ rn ro sp gp fx kb17 g1 (mm 8 k - (zRs g1 (mm 2 k) (mm 2 k + mm 4 k) + gp * (mm 4 k - 1))) b13 kb13 g1 (mm 2 k) ((mm 2 k) + (mm 4 k)) (by omega) (by omega) (by omega) (hMb) (hMb) (by omega)) H.size) (cwV 4 hz (z_gV wd_765 wd_767 wd_23 wd_37 wd_768) rfl rfl rfl (by decide +kernel) ⟨Nat.le_of_ble_eq_true rfl, Nat.le_of_ble_eq_true rfl⟩) (zw_preV (q0 := 0) (q := (RMD, TMD, 26)) hK hP hD rfl rfl [0, 15, 14] (by decide) rfl [14, 13] rfl z_true (fun _ _ _ => trivial)) rfl rfl hl.1 rfl (lv_room (Nat.le_of_ble_eq_true rfl)) dMD_measureCell_165 ⟨Nat.le_of_ble_eq_true rfl, Nat.le_of_ble_eq_true rfl⟩) (fun u H locs h_s1 hP hD hK hS => ?_)
        obtain ⟨s_1, rfl⟩ : ∃ z, z = u := ⟨_, rfl⟩
        have hP : va_P (dC, dI) vwCl [zob h0 6 [.int (nI mg), .ref b0, .ref b1, .int (nI n), .ref b2, .ref b3, .ref b4, .ref b5, .ref b6, .ref b7, .ref b8, .ref b9, .ref b10, .ref b11, .int (nI rg - nI 1), .int (nI rn), .int (nI ro), .int (nI sp), .int (nI gp), .int (nI fx), .ref b12, .ref b13, .ref b14, .ref b15, .ref b16, .ref b17], zar b0 kb0 8 (fun j => nI (mm 0 j)), zar b1 kb1 8 (fun j => nI (mm 1 j)), zar b2 kb2 40 (fun j => nI (mm 2 j)), zar b3 kb3 40 (fun j => nI (mm 3 j)), zar b4 kb4 40 (fun j => nI (mm 4 j)), zar b5 kb5 40 (fun j => nI (mm 5 j)), zar b6 kb6 40 (fun j => nI (mm 6 j)), zar b7 kb7 40 (fun j => nI (mm 7 j)), zar b8 kb8 40 (fun j => nI (mm 8 j)), zar b9 kb9 40 (fun j => nI (mm 9 j)), zar b10 kb10 40 (fun j => nI (mm 10 j)), zar b11 kb11 40 (fun j => nI (mm 11 j)), zar b12 kb12 12 (fun j => nI (g0 j)), zar b13 kb13 12 (fun j => nI (s_1 j)), zar b17 kb17 12 (fun j => nI (g1 j))] H := hP.sub [13, 0, 1, 2, 3, 4, 5, 6, 7, 8, 9, 10, 11, 12, 15, 14] rfl
        have hD : va_D A [zob h0 6 [.int (nI mg), .ref b0, .ref b1, .int (nI n), .ref b2, .ref b3, .ref b4, .ref b5, .ref b6, .ref b7, .ref b8, .ref b9, .ref b10, .ref b11, .int (nI rg - nI 1), .int (nI rn), .int (nI ro), .int (nI sp), .int (nI gp), .int (nI fx), .ref b12, .ref b13, .ref b14, .ref b15, .ref b16, .ref b17], zar b0 kb0 8 (fun j => nI (mm 0 j)), zar b1 kb1 8 (fun j => nI (mm 1 j)), zar b2 kb2 40 (fun j => nI (mm 2 j)), zar b3 kb3 40 (fun j => nI (mm 3 j)), zar b4 kb4 40 (fun j => nI (mm 4 j)), zar b5 kb5 40 (fun j => nI (mm 5 j)), zar b6 kb6 40 (fun j => nI (mm 6 j)), zar b7 kb7 40 (fun j => nI (mm 7 j)), zar b8 kb8 40 (fun j => nI (mm 8 j)), zar b9 kb9 40 (fun j => nI (mm 9 j)), zar b10 kb10 40 (fun j => nI (mm 10 j)), zar b11 kb11 40 (fun j => nI (mm 11 j)), zar b12 kb12 12 (fun j => nI (g0 j)), zar b13 kb13 12 (fun j => nI (s_1 j)), zar b17 kb17 12 (fun j => nI (g1 j))] := hD.sub [13, 0, 1, 2, 3, 4, 5, 6, 7, 8, 9, 10, 11, 12, 15, 14] (by decide) rfl
        have hK : va_K (dC, dI) vwCl [(kb0, .int), (kb1, .int), (kb2, .int), (kb3, .int), (kb4, .int), (kb5, .int), (kb6, .int), (kb7, .int), (kb8, .int), (kb9, .int), (kb10, .int), (kb11, .int), (kb12, .int), (kb13, .int), (kb17, .int)] s := hK
        have h_s1 : s_1 = zShr g1 g1 (mm 8 k - (zRs g1 (mm 2 k) (mm 2 k + mm 4 k) + gp * (mm 4 k - 1))) (mm 2 k) ((mm 2 k) + (mm 4 k)) := h_s1
        refine lv_iload_n hx hb dMD_measureCell_168 rfl (lv_at hl 4 rfl) ?_
        refine lv_istore hx hb dMD_measureCell_169 hl (Nat.le_of_ble_eq_true rfl) rfl (fun ls hl => ?_)
        have hl : lv_has ls 8 [(7, .int (nI (mm 2 k))), (6, .int (nI (mm 8 k) - nI (zRs g1 (mm 2 k) (mm 2 k + mm 4 k) + gp * (mm 4 k - 1)))), (5, .int (nI (mm 7 k) - nI (zRs g0 (mm 2 k) (mm 2 k + mm 4 k) + gp * (mm 4 k - 1)))), (4, .int (nI (gp * ((mm 4 k) - 1)))), (3, .int (nI ((mm 2 k) + (mm 4 k)))), (2, .int (nI (mm 2 k))), (0, .ref h0), (1, .int (nI k))] := hl
        refine zl_upW (σ := Unit) (mm 2 k + mm 4 k) (fun i x9 ls H locs => lv_has ls 8 [(7, .int (nI i)), (3, .int (nI (mm 2 k + mm 4 k))), (2, .int (nI (mm 2 k))), (1, .int (nI k)), (0, .ref h0)] ∧ (mm 2 k ≤ i) ∧ va_P (dC, dI) vwCl [zob h0 6 [.int (nI mg), .ref b0, .ref b1, .int (nI n), .ref b2, .ref b3, .ref b4, .ref b5, .ref b6, .ref b7, .ref b8, .ref b9, .ref b10, .ref b11, .int (nI rg - nI 1), .int (nI rn), .int (nI ro), .int (nI sp), .int (nI gp), .int (nI fx), .ref b12, .ref b13, .ref b14, .ref b15, .ref b16, .ref b17], zar b0 kb0 8 (fun j => nI (mm 0 j)), zar b1 kb1 8 (fun j => nI (mm 1 j)), zar b2 kb2 40 (fun j => nI (mm 2 j)), zar b3 kb3 40 (fun j => nI (mm 3 j)), zar b4 kb4 40 (fun j => nI (mm 4 j)), zar b5 kb5 40 (fun j => nI (mm 5 j)), zar b6 kb6 40 (fun j => nI (mm 6 j)), zar b7 kb7 40 (fun j => nI (mm 7 j)), zar b8 kb8 40 (fun j => nI (mm 8 j)), zar b9 kb9 40 (fun j => nI (mm 9 j)), zar b10 kb10 40 (fun j => nI (mm 10 j)), zar b11 kb11 40 (fun j => nI (mm 11 j)), zar b12 kb12 12 (fun j => nI (g0 j)), zar b13 kb13 12 (fun j => nI (zRz s_1 g0 (mm 2 k) i j)), zar b17 kb17 12 (fun j => nI (g1 j))] H ∧ va_D A [zob h0 6 [.int (nI mg), .ref b0, .ref b1, .int (nI n), .ref b2, .ref b3, .ref b4, .ref b5, .ref b6, .ref b7, .ref b8, .ref b9, .ref b10, .ref b11, .int (nI rg - nI 1), .int (nI rn), .int (nI ro), .int (nI sp), .int (nI gp), .int (nI fx), .ref b12, .ref b13, .ref b14, .ref b15, .ref b16, .ref b17], zar b0 kb0 8 (fun j => nI (mm 0 j)), zar b1 kb1 8 (fun j => nI (mm 1 j)), zar b2 kb2 40 (fun j => nI (mm 2 j)), zar b3 kb3 40 (fun j => nI (mm 3 j)), zar b4 kb4 40 (fun j => nI (mm 4 j)), zar b5 kb5 40 (fun j => nI (mm 5 j)), zar b6 kb6 40 (fun j => nI (mm 6 j)), zar b7 kb7 40 (fun j => nI (mm 7 j)), zar b8 kb8 40 (fun j => nI (mm 8 j)), zar b9 kb9 40 (fun j => nI (mm 9 j)), zar b10 kb10 40 (fun j => nI (mm 10 j)), zar b11 kb11 40 (fun j => nI (mm 11 j)), zar b12 kb12 12 (fun j => nI (g0 j)), zar b13 kb13 12 (fun j => nI (zRz s_1 g0 (mm 2 k) i j)), zar b17 kb17 12 (fun j => nI (g1 j))] ∧ va_S A s.heap H locs) ?_ ?_ (mm 2 k) (by omega) () ls H locs ⟨lv_sub hl [0, 4, 5, 7, 6] rfl, Nat.le_refl _, by rw [zRz_0]; exact hP, by rw [zRz_0]; exact hD, hS⟩
        · intro x9 ls H locs hI
          obtain ⟨hl, hxI, hP, hD, hS⟩ := hI
          have hl : lv_has ls 8 [(7, .int (nI (mm 2 k + mm 4 k))), (3, .int (nI (mm 2 k + mm 4 k))), (2, .int (nI (mm 2 k))), (1, .int (nI k)), (0, .ref h0)] := hl
          have hP : va_P (dC, dI) vwCl [zob h0 6 [.int (nI mg), .ref b0, .ref b1, .int (nI n), .ref b2, .ref b3, .ref b4, .ref b5, .ref b6, .ref b7, .ref b8, .ref b9, .ref b10, .ref b11, .int (nI rg - nI 1), .int (nI rn), .int (nI ro), .int (nI sp), .int (nI gp), .int (nI fx), .ref b12, .ref b13, .ref b14, .ref b15, .ref b16, .ref b17], zar b0 kb0 8 (fun j => nI (mm 0 j)), zar b1 kb1 8 (fun j => nI (mm 1 j)), zar b2 kb2 40 (fun j => nI (mm 2 j)), zar b3 kb3 40 (fun j => nI (mm 3 j)), zar b4 kb4 40 (fun j => nI (mm 4 j)), zar b5 kb5 40 (fun j => nI (mm 5 j)), zar b6 kb6 40 (fun j => nI (mm 6 j)), zar b7 kb7 40 (fun j => nI (mm 7 j)), zar b8 kb8 40 (fun j => nI (mm 8 j)), zar b9 kb9 40 (fun j => nI (mm 9 j)), zar b10 kb10 40 (fun j => nI (mm 10 j)), zar b11 kb11 40 (fun j => nI (mm 11 j)), zar b12 kb12 12 (fun j => nI (g0 j)), zar b13 kb13 12 (fun j => nI (zRz s_1 g0 (mm 2 k) (mm 2 k + mm 4 k) j)), zar b17 kb17 12 (fun j => nI (g1 j))] H := hP
          have hD : va_D A [zob h0 6 [.int (nI mg), .ref b0, .ref b1, .int (nI n), .ref b2, .ref b3, .ref b4, .ref b5, .ref b6, .ref b7, .ref b8, .ref b9, .ref b10, .ref b11, .int (nI rg - nI 1), .int (nI rn), .int (nI ro), .int (nI sp), .int (nI gp), .int (nI fx), .ref b12, .ref b13, .ref b14, .ref b15, .ref b16, .ref b17], zar b0 kb0 8 (fun j => nI (mm 0 j)), zar b1 kb1 8 (fun j => nI (mm 1 j)), zar b2 kb2 40 (fun j => nI (mm 2 j)), zar b3 kb3 40 (fun j => nI (mm 3 j)), zar b4 kb4 40 (fun j => nI (mm 4 j)), zar b5 kb5 40 (fun j => nI (mm 5 j)), zar b6 kb6 40 (fun j => nI (mm 6 j)), zar b7 kb7 40 (fun j => nI (mm 7 j)), zar b8 kb8 40 (fun j => nI (mm 8 j)), zar b9 kb9 40 (fun j => nI (mm 9 j)), zar b10 kb10 40 (fun j => nI (mm 10 j)), zar b11 kb11 40 (fun j => nI (mm 11 j)), zar b12 kb12 12 (fun j => nI (g0 j)), zar b13 kb13 12 (fun j => nI (zRz s_1 g0 (mm 2 k) (mm 2 k + mm 4 k) j)), zar b17 kb17 12 (fun j => nI (g1 j))] := hD
          refine lv_iload hx hb dMD_measureCell_171 (lv_at hl 0 rfl) ?_
          refine lv_iload_n hx hb dMD_measureCell_173 rfl (lv_at hl 1 rfl) ?_
          have t53 := hm 2 k
          have t54 := hm 4 k
          have t55 := nI_toInt (n := mm 2 k + mm 4 k) (by omega)
          have t56 := hm 2 k
          have t57 := hm 4 k
          have t58 := nI_toInt (n := mm 2 k + mm 4 k) (by omega)
          refine lv_icmp_ge (tgt := 207) hx hb dMD_measureCell_174 rfl (fun _ => ?_) (fun h => by have h := z_nle h; omega)
          subst hQ
          exact zw_vret (D := (dC, dI)) (cl := vwCl) (A := A) (g0, zRz s_1 g0 (mm 2 k) (mm 2 k + mm 4 k), fun j => nI (g1 j)) hx hb hr hlocks (z_fitof ((zStr_F (by omega)).symm) (h_s1.trans (by rw [← e_1]; exact (zStr_T (by omega)).symm))) (hP.sub [0, 1, 2, 3, 4, 5, 6, 7, 8, 9, 10, 11, 12, 13, 14, 15] rfl) (hK.sub [] rfl) (hD.sub [0, 1, 2, 3, 4, 5, 6, 7, 8, 9, 10, 11, 12, 13, 14, 15] (by decide) rfl) hS dMD_measureCell_207
        · intro i hi ih
          intro x9 ls H locs hI
          obtain ⟨hl, hxI, hP, hD, hS⟩ := hI
          have hl : lv_has ls 8 [(7, .int (nI i)), (3, .int (nI (mm 2 k + mm 4 k))), (2, .int (nI (mm 2 k))), (1, .int (nI k)), (0, .ref h0)] := hl
          have hP : va_P (dC, dI) vwCl [zob h0 6 [.int (nI mg), .ref b0, .ref b1, .int (nI n), .ref b2, .ref b3, .ref b4, .ref b5, .ref b6, .ref b7, .ref b8, .ref b9, .ref b10, .ref b11, .int (nI rg - nI 1), .int (nI rn), .int (nI ro), .int (nI sp), .int (nI gp), .int (nI fx), .ref b12, .ref b13, .ref b14, .ref b15, .ref b16, .ref b17], zar b0 kb0 8 (fun j => nI (mm 0 j)), zar b1 kb1 8 (fun j => nI (mm 1 j)), zar b2 kb2 40 (fun j => nI (mm 2 j)), zar b3 kb3 40 (fun j => nI (mm 3 j)), zar b4 kb4 40 (fun j => nI (mm 4 j)), zar b5 kb5 40 (fun j => nI (mm 5 j)), zar b6 kb6 40 (fun j => nI (mm 6 j)), zar b7 kb7 40 (fun j => nI (mm 7 j)), zar b8 kb8 40 (fun j => nI (mm 8 j)), zar b9 kb9 40 (fun j => nI (mm 9 j)), zar b10 kb10 40 (fun j => nI (mm 10 j)), zar b11 kb11 40 (fun j => nI (mm 11 j)), zar b12 kb12 12 (fun j => nI (g0 j)), zar b13 kb13 12 (fun j => nI (zRz s_1 g0 (mm 2 k) i j)), zar b17 kb17 12 (fun j => nI (g1 j))] H := hP
          have hD : va_D A [zob h0 6 [.int (nI mg), .ref b0, .ref b1, .int (nI n), .ref b2, .ref b3, .ref b4, .ref b5, .ref b6, .ref b7, .ref b8, .ref b9, .ref b10, .ref b11, .int (nI rg - nI 1), .int (nI rn), .int (nI ro), .int (nI sp), .int (nI gp), .int (nI fx), .ref b12, .ref b13, .ref b14, .ref b15, .ref b16, .ref b17], zar b0 kb0 8 (fun j => nI (mm 0 j)), zar b1 kb1 8 (fun j => nI (mm 1 j)), zar b2 kb2 40 (fun j => nI (mm 2 j)), zar b3 kb3 40 (fun j => nI (mm 3 j)), zar b4 kb4 40 (fun j => nI (mm 4 j)), zar b5 kb5 40 (fun j => nI (mm 5 j)), zar b6 kb6 40 (fun j => nI (mm 6 j)), zar b7 kb7 40 (fun j => nI (mm 7 j)), zar b8 kb8 40 (fun j => nI (mm 8 j)), zar b9 kb9 40 (fun j => nI (mm 9 j)), zar b10 kb10 40 (fun j => nI (mm 10 j)), zar b11 kb11 40 (fun j => nI (mm 11 j)), zar b12 kb12 12 (fun j => nI (g0 j)), zar b13 kb13 12 (fun j => nI (zRz s_1 g0 (mm 2 k) i j)), zar b17 kb17 12 (fun j => nI (g1 j))] := hD
          refine lv_iload hx hb dMD_measureCell_171 (lv_at hl 0 rfl) ?_
          refine lv_iload_n hx hb dMD_measureCell_173 rfl (lv_at hl 1 rfl) ?_
          have t59 := nI_toInt (n := i) (by omega)
          have t60 := hm 2 k
          have t61 := hm 4 k
          have t62 := nI_toInt (n := mm 2 k + mm 4 k) (by omega)
          refine lv_icmp_ge (tgt := 207) hx hb dMD_measureCell_174 rfl (fun h => by have h := z_le h; omega) (fun _ => ?_)
          refine lv_aload_n hx hb dMD_measureCell_177 rfl (lv_at hl 4 rfl) ?_
          refine va_get (D := (dC, dI)) (ci := 6) (v := .ref b13) (C := RMD) (T := TMD) (N := 26) hx hb hz in_MD hown hK hP 0 rfl rfl 21 (by decide) (hz _ wd_605) (fun _ h9 => h9) rfl dMD_measureCell_178 ?_
          refine lv_iload hx hb dMD_measureCell_181 (lv_at hl 0 rfl) ?_
          refine lv_aload_n hx hb dMD_measureCell_183 rfl (lv_at hl 4 rfl) ?_
          refine va_get (D := (dC, dI)) (ci := 6) (v := .ref b13) (C := RMD) (T := TMD) (N := 26) hx hb hz in_MD hown hK hP 0 rfl rfl 21 (by decide) (hz _ wd_605) (fun _ h9 => h9) rfl dMD_measureCell_184 ?_
          refine lv_iload hx hb dMD_measureCell_187 (lv_at hl 0 rfl) ?_
          refine va_iald hx hb hK hP 14 13 rfl rfl (vp_in_nI (by omega) (by omega)) dMD_measureCell_189 ?_
          refine lv_topi (fun x63 e64 => ?_)
          have e64 : x63 = nI (s_1 i) := e64.trans (by show nI (zRz s_1 g0 (mm 2 k) i (nI i).toNatClampNeg) = _; rw [nI_clamp (by omega), zRz_at])
          subst e64
          refine lv_aload_n hx hb dMD_measureCell_190 rfl (lv_at hl 4 rfl) ?_
          refine va_get (D := (dC, dI)) (ci := 6) (v := .ref b12) (C := RMD) (T := TMD) (N := 26) hx hb hz in_MD hown hK hP 0 rfl rfl 20 (by decide) (hz _ wd_604) (fun _ h9 => h9) rfl dMD_measureCell_191 ?_
          refine lv_iload hx hb dMD_measureCell_194 (lv_at hl 0 rfl) ?_
          refine va_iald hx hb hK hP 13 12 rfl rfl (vp_in_nI (by omega) (by omega)) dMD_measureCell_196 ?_
          refine lv_topi (fun x65 e66 => ?_)
          have e66 : x65 = nI (g0 i) := e66.trans (by show nI (g0 (nI i).toNatClampNeg) = _; rw [nI_clamp (by omega)])
          subst e66
          have hx1 : s_1 i ≤ 40000 := by rw [h_s1]; exact z_shl (by omega) hMb (by omega) i
          have hx0 : g0 i ≤ 40000 := by have := hLb i; omega
          refine vp_callSi (W.runS (As := [.int (nI (s_1 i)), .int (nI (g0 i))]) (rest := [.int (nI i), .ref b13]) ⟨hx, hb, hml, hown, hz⟩ (x_MD_greater l dC dI (s_1 i) (g0 i) (by omega)) (va_cwS 2 hz (z_gS wd_755 wd_756 wd_37 wd_757) rfl rfl rfl (by decide +kernel) ⟨Nat.le_of_ble_eq_true rfl, Nat.le_of_ble_eq_true rfl⟩) (zr_preS hK (hP.sub [] rfl) [] rfl z_true (fun _ _ _ => trivial)) rfl rfl hl.1 rfl (lv_room (Nat.le_of_ble_eq_true rfl)) dMD_measureCell_197 ⟨Nat.le_of_ble_eq_true rfl, Nat.le_of_ble_eq_true rfl⟩) (fun r67 h_r67 => ?_)
          have h_r67 : r67 = nI (if (s_1 i) < (g0 i) then (g0 i) else (s_1 i)) := h_r67
          subst h_r67
          refine va_iast hx hb hK hP hD hS 14 13 rfl rfl (vp_in_nI (by omega) (by omega)) dMD_measureCell_200 (fun H locs hP hD hS => ?_)
          have e_u := z_upd (f := zRz s_1 g0 (mm 2 k) i) (k := i) (v := if (s_1 i) < (g0 i) then (g0 i) else (s_1 i)) (by omega)
          have hP : va_P (dC, dI) vwCl [zob h0 6 [.int (nI mg), .ref b0, .ref b1, .int (nI n), .ref b2, .ref b3, .ref b4, .ref b5, .ref b6, .ref b7, .ref b8, .ref b9, .ref b10, .ref b11, .int (nI rg - nI 1), .int (nI rn), .int (nI ro), .int (nI sp), .int (nI gp), .int (nI fx), .ref b12, .ref b13, .ref b14, .ref b15, .ref b16, .ref b17], zar b0 kb0 8 (fun j => nI (mm 0 j)), zar b1 kb1 8 (fun j => nI (mm 1 j)), zar b2 kb2 40 (fun j => nI (mm 2 j)), zar b3 kb3 40 (fun j => nI (mm 3 j)), zar b4 kb4 40 (fun j => nI (mm 4 j)), zar b5 kb5 40 (fun j => nI (mm 5 j)), zar b6 kb6 40 (fun j => nI (mm 6 j)), zar b7 kb7 40 (fun j => nI (mm 7 j)), zar b8 kb8 40 (fun j => nI (mm 8 j)), zar b9 kb9 40 (fun j => nI (mm 9 j)), zar b10 kb10 40 (fun j => nI (mm 10 j)), zar b11 kb11 40 (fun j => nI (mm 11 j)), zar b12 kb12 12 (fun j => nI (g0 j)), zar b13 kb13 12 (fun j => nI (va_up (zRz s_1 g0 (mm 2 k) i) i (if (s_1 i) < (g0 i) then (g0 i) else (s_1 i)) j)), zar b17 kb17 12 (fun j => nI (g1 j))] H := by rw [← e_u]; exact hP
          have hD : va_D A [zob h0 6 [.int (nI mg), .ref b0, .ref b1, .int (nI n), .ref b2, .ref b3, .ref b4, .ref b5, .ref b6, .ref b7, .ref b8, .ref b9, .ref b10, .ref b11, .int (nI rg - nI 1), .int (nI rn), .int (nI ro), .int (nI sp), .int (nI gp), .int (nI fx), .ref b12, .ref b13, .ref b14, .ref b15, .ref b16, .ref b17], zar b0 kb0 8 (fun j => nI (mm 0 j)), zar b1 kb1 8 (fun j => nI (mm 1 j)), zar b2 kb2 40 (fun j => nI (mm 2 j)), zar b3 kb3 40 (fun j => nI (mm 3 j)), zar b4 kb4 40 (fun j => nI (mm 4 j)), zar b5 kb5 40 (fun j => nI (mm 5 j)), zar b6 kb6 40 (fun j => nI (mm 6 j)), zar b7 kb7 40 (fun j => nI (mm 7 j)), zar b8 kb8 40 (fun j => nI (mm 8 j)), zar b9 kb9 40 (fun j => nI (mm 9 j)), zar b10 kb10 40 (fun j => nI (mm 10 j)), zar b11 kb11 40 (fun j => nI (mm 11 j)), zar b12 kb12 12 (fun j => nI (g0 j)), zar b13 kb13 12 (fun j => nI (va_up (zRz s_1 g0 (mm 2 k) i) i (if (s_1 i) < (g0 i) then (g0 i) else (s_1 i)) j)), zar b17 kb17 12 (fun j => nI (g1 j))] := by rw [← e_u]; exact hD
          refine lv_iinc (k := 0) (v := nI (i + 1)) hx hb dMD_measureCell_201 hl rfl (by rw [show Int32.ofInt 1 = nI 1 from by decide]; exact nI_add _ _) (Nat.le_of_ble_eq_true rfl) rfl (fun ls hl => ?_)
          have hl : lv_has ls 8 [(7, .int (nI (i + 1))), (3, .int (nI (mm 2 k + mm 4 k))), (2, .int (nI (mm 2 k))), (1, .int (nI k)), (0, .ref h0)] := hl
          refine lv_goto (tgt := 171) hx hb dMD_measureCell_204 rfl ?_
          rw [zRz_s (by omega)] at hP hD
          exact ih () ls H locs ⟨lv_sub hl [0, 1, 2, 3, 4] rfl, by omega, hP, hD, hS⟩
    · have h_lo := z_nle h_lo
      refine lv_aload_n hx hb dMD_measureCell_139 rfl (lv_at hl 5 rfl) ?_
      refine lv_iload hx hb dMD_measureCell_140 (lv_at hl 1 rfl) ?_
      refine lv_topi (fun x68 e69 => ?_)
      have e69 : x68 = nI (mm 7 k - (zRs g0 (mm 2 k) (mm 2 k + mm 4 k) + gp * (mm 4 k - 1))) := e69.trans (pk_sub (by omega))
      subst e69
      refine lv_aload_n hx hb dMD_measureCell_142 rfl (lv_at hl 5 rfl) ?_
      refine va_get (D := (dC, dI)) (ci := 6) (v := .ref b12) (C := RMD) (T := TMD) (N := 26) hx hb hz in_MD hown hK hP 0 rfl rfl 20 (by decide) (hz _ wd_604) (fun _ h9 => h9) rfl dMD_measureCell_143 ?_
      refine lv_iload_n hx hb dMD_measureCell_146 rfl (lv_at hl 4 rfl) ?_
      refine lv_iload_n hx hb dMD_measureCell_147 rfl (lv_at hl 3 rfl) ?_
      refine zw_callv (wr := [zar b0 kb0 8 (fun j => nI (mm 0 j)), zar b1 kb1 8 (fun j => nI (mm 1 j)), zar b2 kb2 40 (fun j => nI (mm 2 j)), zar b3 kb3 40 (fun j => nI (mm 3 j)), zar b4 kb4 40 (fun j => nI (mm 4 j)), zar b5 kb5 40 (fun j => nI (mm 5 j)), zar b6 kb6 40 (fun j => nI (mm 6 j)), zar b7 kb7 40 (fun j => nI (mm 7 j)), zar b8 kb8 40 (fun j => nI (mm 8 j)), zar b9 kb9 40 (fun j => nI (mm 9 j)), zar b10 kb10 40 (fun j => nI (mm 10 j)), zar b11 kb11 40 (fun j => nI (mm 11 j)), zar b13 kb13 12 (fun j => nI (g1 j))]) hK hP hD hS hA [0, 15, 13] [1, 2, 3, 4, 5, 6, 7, 8, 9, 10, 11, 12, 14] rfl rfl (by decide) (by decide) (va_runV (As := [.int (nI (mm 7 k - (zRs g0 (mm 2 k) (mm 2 k + mm 4 k) + gp * (mm 4 k - 1)))), .ref b12, .int (nI (mm 2 k)), .int (nI ((mm 2 k) + (mm 4 k)))]) (rest := []) ⟨hx, hb, hml, hown, hz⟩ ((x_MD_share l dC dI h0 b0 b1 b2 b3 b4 b5 b6 b7 b8 b9 b10 b11 b12 b13 b14 b15 b16 b17 mg n _ rn ro sp gp fx kb17 g1 (mm 7 k - (zRs g0 (mm 2 k) (mm 2 k + mm 4 k) + gp * (mm 4 k - 1))) b12 kb12 g0 (mm 2 k) ((mm 2 k) + (mm 4 k)) (by omega) (by omega) (by omega) (hLb) (hMb) (by omega)) H.size) (cwV 4 hz (z_gV wd_765 wd_767 wd_23 wd_37 wd_768) rfl rfl rfl (by decide +kernel) ⟨Nat.le_of_ble_eq_true rfl, Nat.le_of_ble_eq_true rfl⟩) (zw_preV (q0 := 0) (q := (RMD, TMD, 26)) hK hP hD rfl rfl [0, 15, 13] (by decide) rfl [14, 12] rfl z_true (fun _ _ _ => trivial)) rfl rfl hl.1 rfl (lv_room (Nat.le_of_ble_eq_true rfl)) dMD_measureCell_148 ⟨Nat.le_of_ble_eq_true rfl, Nat.le_of_ble_eq_true rfl⟩) (fun u H locs h_s0 hP hD hK hS => ?_)
      obtain ⟨s_0, rfl⟩ : ∃ z, z = u := ⟨_, rfl⟩
      have hP : va_P (dC, dI) vwCl [zob h0 6 [.int (nI mg), .ref b0, .ref b1, .int (nI n), .ref b2, .ref b3, .ref b4, .ref b5, .ref b6, .ref b7, .ref b8, .ref b9, .ref b10, .ref b11, .int (nI rg - nI 1), .int (nI rn), .int (nI ro), .int (nI sp), .int (nI gp), .int (nI fx), .ref b12, .ref b13, .ref b14, .ref b15, .ref b16, .ref b17], zar b0 kb0 8 (fun j => nI (mm 0 j)), zar b1 kb1 8 (fun j => nI (mm 1 j)), zar b2 kb2 40 (fun j => nI (mm 2 j)), zar b3 kb3 40 (fun j => nI (mm 3 j)), zar b4 kb4 40 (fun j => nI (mm 4 j)), zar b5 kb5 40 (fun j => nI (mm 5 j)), zar b6 kb6 40 (fun j => nI (mm 6 j)), zar b7 kb7 40 (fun j => nI (mm 7 j)), zar b8 kb8 40 (fun j => nI (mm 8 j)), zar b9 kb9 40 (fun j => nI (mm 9 j)), zar b10 kb10 40 (fun j => nI (mm 10 j)), zar b11 kb11 40 (fun j => nI (mm 11 j)), zar b12 kb12 12 (fun j => nI (s_0 j)), zar b13 kb13 12 (fun j => nI (g1 j)), zar b17 kb17 12 (fun j => nI (g1 j))] H := hP.sub [13, 0, 1, 2, 3, 4, 5, 6, 7, 8, 9, 10, 11, 15, 12, 14] rfl
      have hD : va_D A [zob h0 6 [.int (nI mg), .ref b0, .ref b1, .int (nI n), .ref b2, .ref b3, .ref b4, .ref b5, .ref b6, .ref b7, .ref b8, .ref b9, .ref b10, .ref b11, .int (nI rg - nI 1), .int (nI rn), .int (nI ro), .int (nI sp), .int (nI gp), .int (nI fx), .ref b12, .ref b13, .ref b14, .ref b15, .ref b16, .ref b17], zar b0 kb0 8 (fun j => nI (mm 0 j)), zar b1 kb1 8 (fun j => nI (mm 1 j)), zar b2 kb2 40 (fun j => nI (mm 2 j)), zar b3 kb3 40 (fun j => nI (mm 3 j)), zar b4 kb4 40 (fun j => nI (mm 4 j)), zar b5 kb5 40 (fun j => nI (mm 5 j)), zar b6 kb6 40 (fun j => nI (mm 6 j)), zar b7 kb7 40 (fun j => nI (mm 7 j)), zar b8 kb8 40 (fun j => nI (mm 8 j)), zar b9 kb9 40 (fun j => nI (mm 9 j)), zar b10 kb10 40 (fun j => nI (mm 10 j)), zar b11 kb11 40 (fun j => nI (mm 11 j)), zar b12 kb12 12 (fun j => nI (s_0 j)), zar b13 kb13 12 (fun j => nI (g1 j)), zar b17 kb17 12 (fun j => nI (g1 j))] := hD.sub [13, 0, 1, 2, 3, 4, 5, 6, 7, 8, 9, 10, 11, 15, 12, 14] (by decide) rfl
      have hK : va_K (dC, dI) vwCl [(kb0, .int), (kb1, .int), (kb2, .int), (kb3, .int), (kb4, .int), (kb5, .int), (kb6, .int), (kb7, .int), (kb8, .int), (kb9, .int), (kb10, .int), (kb11, .int), (kb12, .int), (kb13, .int), (kb17, .int)] s := hK
      have h_s0 : s_0 = zShr g0 g1 (mm 7 k - (zRs g0 (mm 2 k) (mm 2 k + mm 4 k) + gp * (mm 4 k - 1))) (mm 2 k) ((mm 2 k) + (mm 4 k)) := h_s0
      refine lv_iload hx hb dMD_measureCell_151 (lv_at hl 0 rfl) ?_
      have t70 := pk_sub_toInt (a := mm 8 k) (b := zRs g1 (mm 2 k) (mm 2 k + mm 4 k) + gp * (mm 4 k - 1)) (by omega) (by omega)
      have t71 : (0 : Int32).toInt = 0 := by decide
      refine lv_if_le (tgt := 168) hx hb dMD_measureCell_153 rfl (fun h_hi => ?_) (fun h_hi => ?_)
      · have h_hi := z_le h_hi
        refine lv_iload_n hx hb dMD_measureCell_168 rfl (lv_at hl 4 rfl) ?_
        refine lv_istore hx hb dMD_measureCell_169 hl (Nat.le_of_ble_eq_true rfl) rfl (fun ls hl => ?_)
        have hl : lv_has ls 8 [(7, .int (nI (mm 2 k))), (6, .int (nI (mm 8 k) - nI (zRs g1 (mm 2 k) (mm 2 k + mm 4 k) + gp * (mm 4 k - 1)))), (5, .int (nI (mm 7 k) - nI (zRs g0 (mm 2 k) (mm 2 k + mm 4 k) + gp * (mm 4 k - 1)))), (4, .int (nI (gp * ((mm 4 k) - 1)))), (3, .int (nI ((mm 2 k) + (mm 4 k)))), (2, .int (nI (mm 2 k))), (0, .ref h0), (1, .int (nI k))] := hl
        refine zl_upW (σ := Unit) (mm 2 k + mm 4 k) (fun i x9 ls H locs => lv_has ls 8 [(7, .int (nI i)), (3, .int (nI (mm 2 k + mm 4 k))), (2, .int (nI (mm 2 k))), (1, .int (nI k)), (0, .ref h0)] ∧ (mm 2 k ≤ i) ∧ va_P (dC, dI) vwCl [zob h0 6 [.int (nI mg), .ref b0, .ref b1, .int (nI n), .ref b2, .ref b3, .ref b4, .ref b5, .ref b6, .ref b7, .ref b8, .ref b9, .ref b10, .ref b11, .int (nI rg - nI 1), .int (nI rn), .int (nI ro), .int (nI sp), .int (nI gp), .int (nI fx), .ref b12, .ref b13, .ref b14, .ref b15, .ref b16, .ref b17], zar b0 kb0 8 (fun j => nI (mm 0 j)), zar b1 kb1 8 (fun j => nI (mm 1 j)), zar b2 kb2 40 (fun j => nI (mm 2 j)), zar b3 kb3 40 (fun j => nI (mm 3 j)), zar b4 kb4 40 (fun j => nI (mm 4 j)), zar b5 kb5 40 (fun j => nI (mm 5 j)), zar b6 kb6 40 (fun j => nI (mm 6 j)), zar b7 kb7 40 (fun j => nI (mm 7 j)), zar b8 kb8 40 (fun j => nI (mm 8 j)), zar b9 kb9 40 (fun j => nI (mm 9 j)), zar b10 kb10 40 (fun j => nI (mm 10 j)), zar b11 kb11 40 (fun j => nI (mm 11 j)), zar b12 kb12 12 (fun j => nI (s_0 j)), zar b13 kb13 12 (fun j => nI (zRz g1 s_0 (mm 2 k) i j)), zar b17 kb17 12 (fun j => nI (g1 j))] H ∧ va_D A [zob h0 6 [.int (nI mg), .ref b0, .ref b1, .int (nI n), .ref b2, .ref b3, .ref b4, .ref b5, .ref b6, .ref b7, .ref b8, .ref b9, .ref b10, .ref b11, .int (nI rg - nI 1), .int (nI rn), .int (nI ro), .int (nI sp), .int (nI gp), .int (nI fx), .ref b12, .ref b13, .ref b14, .ref b15, .ref b16, .ref b17], zar b0 kb0 8 (fun j => nI (mm 0 j)), zar b1 kb1 8 (fun j => nI (mm 1 j)), zar b2 kb2 40 (fun j => nI (mm 2 j)), zar b3 kb3 40 (fun j => nI (mm 3 j)), zar b4 kb4 40 (fun j => nI (mm 4 j)), zar b5 kb5 40 (fun j => nI (mm 5 j)), zar b6 kb6 40 (fun j => nI (mm 6 j)), zar b7 kb7 40 (fun j => nI (mm 7 j)), zar b8 kb8 40 (fun j => nI (mm 8 j)), zar b9 kb9 40 (fun j => nI (mm 9 j)), zar b10 kb10 40 (fun j => nI (mm 10 j)), zar b11 kb11 40 (fun j => nI (mm 11 j)), zar b12 kb12 12 (fun j => nI (s_0 j)), zar b13 kb13 12 (fun j => nI (zRz g1 s_0 (mm 2 k) i j)), zar b17 kb17 12 (fun j => nI (g1 j))] ∧ va_S A s.heap H locs) ?_ ?_ (mm 2 k) (by omega) () ls H locs ⟨lv_sub hl [0, 4, 5, 7, 6] rfl, Nat.le_refl _, by rw [zRz_0]; exact hP, by rw [zRz_0]; exact hD, hS⟩
        · intro x9 ls H locs hI
          obtain ⟨hl, hxI, hP, hD, hS⟩ := hI
          have hl : lv_has ls 8 [(7, .int (nI (mm 2 k + mm 4 k))), (3, .int (nI (mm 2 k + mm 4 k))), (2, .int (nI (mm 2 k))), (1, .int (nI k)), (0, .ref h0)] := hl
          have hP : va_P (dC, dI) vwCl [zob h0 6 [.int (nI mg), .ref b0, .ref b1, .int (nI n), .ref b2, .ref b3, .ref b4, .ref b5, .ref b6, .ref b7, .ref b8, .ref b9, .ref b10, .ref b11, .int (nI rg - nI 1), .int (nI rn), .int (nI ro), .int (nI sp), .int (nI gp), .int (nI fx), .ref b12, .ref b13, .ref b14, .ref b15, .ref b16, .ref b17], zar b0 kb0 8 (fun j => nI (mm 0 j)), zar b1 kb1 8 (fun j => nI (mm 1 j)), zar b2 kb2 40 (fun j => nI (mm 2 j)), zar b3 kb3 40 (fun j => nI (mm 3 j)), zar b4 kb4 40 (fun j => nI (mm 4 j)), zar b5 kb5 40 (fun j => nI (mm 5 j)), zar b6 kb6 40 (fun j => nI (mm 6 j)), zar b7 kb7 40 (fun j => nI (mm 7 j)), zar b8 kb8 40 (fun j => nI (mm 8 j)), zar b9 kb9 40 (fun j => nI (mm 9 j)), zar b10 kb10 40 (fun j => nI (mm 10 j)), zar b11 kb11 40 (fun j => nI (mm 11 j)), zar b12 kb12 12 (fun j => nI (s_0 j)), zar b13 kb13 12 (fun j => nI (zRz g1 s_0 (mm 2 k) (mm 2 k + mm 4 k) j)), zar b17 kb17 12 (fun j => nI (g1 j))] H := hP
          have hD : va_D A [zob h0 6 [.int (nI mg), .ref b0, .ref b1, .int (nI n), .ref b2, .ref b3, .ref b4, .ref b5, .ref b6, .ref b7, .ref b8, .ref b9, .ref b10, .ref b11, .int (nI rg - nI 1), .int (nI rn), .int (nI ro), .int (nI sp), .int (nI gp), .int (nI fx), .ref b12, .ref b13, .ref b14, .ref b15, .ref b16, .ref b17], zar b0 kb0 8 (fun j => nI (mm 0 j)), zar b1 kb1 8 (fun j => nI (mm 1 j)), zar b2 kb2 40 (fun j => nI (mm 2 j)), zar b3 kb3 40 (fun j => nI (mm 3 j)), zar b4 kb4 40 (fun j => nI (mm 4 j)), zar b5 kb5 40 (fun j => nI (mm 5 j)), zar b6 kb6 40 (fun j => nI (mm 6 j)), zar b7 kb7 40 (fun j => nI (mm 7 j)), zar b8 kb8 40 (fun j => nI (mm 8 j)), zar b9 kb9 40 (fun j => nI (mm 9 j)), zar b10 kb10 40 (fun j => nI (mm 10 j)), zar b11 kb11 40 (fun j => nI (mm 11 j)), zar b12 kb12 12 (fun j => nI (s_0 j)), zar b13 kb13 12 (fun j => nI (zRz g1 s_0 (mm 2 k) (mm 2 k + mm 4 k) j)), zar b17 kb17 12 (fun j => nI (g1 j))] := hD
          refine lv_iload hx hb dMD_measureCell_171 (lv_at hl 0 rfl) ?_
          refine lv_iload_n hx hb dMD_measureCell_173 rfl (lv_at hl 1 rfl) ?_
          have t73 := hm 2 k
          have t74 := hm 4 k
          have t75 := nI_toInt (n := mm 2 k + mm 4 k) (by omega)
          have t76 := hm 2 k
          have t77 := hm 4 k
          have t78 := nI_toInt (n := mm 2 k + mm 4 k) (by omega)
          refine lv_icmp_ge (tgt := 207) hx hb dMD_measureCell_174 rfl (fun _ => ?_) (fun h => by have h := z_nle h; omega)
          subst hQ
          exact zw_vret (D := (dC, dI)) (cl := vwCl) (A := A) (s_0, zRz g1 s_0 (mm 2 k) (mm 2 k + mm 4 k), fun j => nI (g1 j)) hx hb hr hlocks (z_fitof (h_s0.trans (by rw [← e_0]; exact (zStr_T (by omega)).symm)) ((zStr_F (by omega)).symm)) (hP.sub [0, 1, 2, 3, 4, 5, 6, 7, 8, 9, 10, 11, 12, 13, 14, 15] rfl) (hK.sub [] rfl) (hD.sub [0, 1, 2, 3, 4, 5, 6, 7, 8, 9, 10, 11, 12, 13, 14, 15] (by decide) rfl) hS dMD_measureCell_207
        · intro i hi ih
          intro x9 ls H locs hI
          obtain ⟨hl, hxI, hP, hD, hS⟩ := hI
          have hl : lv_has ls 8 [(7, .int (nI i)), (3, .int (nI (mm 2 k + mm 4 k))), (2, .int (nI (mm 2 k))), (1, .int (nI k)), (0, .ref h0)] := hl
          have hP : va_P (dC, dI) vwCl [zob h0 6 [.int (nI mg), .ref b0, .ref b1, .int (nI n), .ref b2, .ref b3, .ref b4, .ref b5, .ref b6, .ref b7, .ref b8, .ref b9, .ref b10, .ref b11, .int (nI rg - nI 1), .int (nI rn), .int (nI ro), .int (nI sp), .int (nI gp), .int (nI fx), .ref b12, .ref b13, .ref b14, .ref b15, .ref b16, .ref b17], zar b0 kb0 8 (fun j => nI (mm 0 j)), zar b1 kb1 8 (fun j => nI (mm 1 j)), zar b2 kb2 40 (fun j => nI (mm 2 j)), zar b3 kb3 40 (fun j => nI (mm 3 j)), zar b4 kb4 40 (fun j => nI (mm 4 j)), zar b5 kb5 40 (fun j => nI (mm 5 j)), zar b6 kb6 40 (fun j => nI (mm 6 j)), zar b7 kb7 40 (fun j => nI (mm 7 j)), zar b8 kb8 40 (fun j => nI (mm 8 j)), zar b9 kb9 40 (fun j => nI (mm 9 j)), zar b10 kb10 40 (fun j => nI (mm 10 j)), zar b11 kb11 40 (fun j => nI (mm 11 j)), zar b12 kb12 12 (fun j => nI (s_0 j)), zar b13 kb13 12 (fun j => nI (zRz g1 s_0 (mm 2 k) i j)), zar b17 kb17 12 (fun j => nI (g1 j))] H := hP
          have hD : va_D A [zob h0 6 [.int (nI mg), .ref b0, .ref b1, .int (nI n), .ref b2, .ref b3, .ref b4, .ref b5, .ref b6, .ref b7, .ref b8, .ref b9, .ref b10, .ref b11, .int (nI rg - nI 1), .int (nI rn), .int (nI ro), .int (nI sp), .int (nI gp), .int (nI fx), .ref b12, .ref b13, .ref b14, .ref b15, .ref b16, .ref b17], zar b0 kb0 8 (fun j => nI (mm 0 j)), zar b1 kb1 8 (fun j => nI (mm 1 j)), zar b2 kb2 40 (fun j => nI (mm 2 j)), zar b3 kb3 40 (fun j => nI (mm 3 j)), zar b4 kb4 40 (fun j => nI (mm 4 j)), zar b5 kb5 40 (fun j => nI (mm 5 j)), zar b6 kb6 40 (fun j => nI (mm 6 j)), zar b7 kb7 40 (fun j => nI (mm 7 j)), zar b8 kb8 40 (fun j => nI (mm 8 j)), zar b9 kb9 40 (fun j => nI (mm 9 j)), zar b10 kb10 40 (fun j => nI (mm 10 j)), zar b11 kb11 40 (fun j => nI (mm 11 j)), zar b12 kb12 12 (fun j => nI (s_0 j)), zar b13 kb13 12 (fun j => nI (zRz g1 s_0 (mm 2 k) i j)), zar b17 kb17 12 (fun j => nI (g1 j))] := hD
          refine lv_iload hx hb dMD_measureCell_171 (lv_at hl 0 rfl) ?_
          refine lv_iload_n hx hb dMD_measureCell_173 rfl (lv_at hl 1 rfl) ?_
          have t79 := nI_toInt (n := i) (by omega)
          have t80 := hm 2 k
          have t81 := hm 4 k
          have t82 := nI_toInt (n := mm 2 k + mm 4 k) (by omega)
          refine lv_icmp_ge (tgt := 207) hx hb dMD_measureCell_174 rfl (fun h => by have h := z_le h; omega) (fun _ => ?_)
          refine lv_aload_n hx hb dMD_measureCell_177 rfl (lv_at hl 4 rfl) ?_
          refine va_get (D := (dC, dI)) (ci := 6) (v := .ref b13) (C := RMD) (T := TMD) (N := 26) hx hb hz in_MD hown hK hP 0 rfl rfl 21 (by decide) (hz _ wd_605) (fun _ h9 => h9) rfl dMD_measureCell_178 ?_
          refine lv_iload hx hb dMD_measureCell_181 (lv_at hl 0 rfl) ?_
          refine lv_aload_n hx hb dMD_measureCell_183 rfl (lv_at hl 4 rfl) ?_
          refine va_get (D := (dC, dI)) (ci := 6) (v := .ref b13) (C := RMD) (T := TMD) (N := 26) hx hb hz in_MD hown hK hP 0 rfl rfl 21 (by decide) (hz _ wd_605) (fun _ h9 => h9) rfl dMD_measureCell_184 ?_
          refine lv_iload hx hb dMD_measureCell_187 (lv_at hl 0 rfl) ?_
          refine va_iald hx hb hK hP 14 13 rfl rfl (vp_in_nI (by omega) (by omega)) dMD_measureCell_189 ?_
          refine lv_topi (fun x83 e84 => ?_)
          have e84 : x83 = nI (g1 i) := e84.trans (by show nI (zRz g1 s_0 (mm 2 k) i (nI i).toNatClampNeg) = _; rw [nI_clamp (by omega), zRz_at])
          subst e84
          refine lv_aload_n hx hb dMD_measureCell_190 rfl (lv_at hl 4 rfl) ?_
          refine va_get (D := (dC, dI)) (ci := 6) (v := .ref b12) (C := RMD) (T := TMD) (N := 26) hx hb hz in_MD hown hK hP 0 rfl rfl 20 (by decide) (hz _ wd_604) (fun _ h9 => h9) rfl dMD_measureCell_191 ?_
          refine lv_iload hx hb dMD_measureCell_194 (lv_at hl 0 rfl) ?_
          refine va_iald hx hb hK hP 13 12 rfl rfl (vp_in_nI (by omega) (by omega)) dMD_measureCell_196 ?_
          refine lv_topi (fun x85 e86 => ?_)
          have e86 : x85 = nI (s_0 i) := e86.trans (by show nI (s_0 (nI i).toNatClampNeg) = _; rw [nI_clamp (by omega)])
          subst e86
          have hx1 : g1 i ≤ 40000 := by have := hMb i; omega
          have hx0 : s_0 i ≤ 40000 := by rw [h_s0]; exact z_shl (by omega) hLb (by omega) i
          refine vp_callSi (W.runS (As := [.int (nI (g1 i)), .int (nI (s_0 i))]) (rest := [.int (nI i), .ref b13]) ⟨hx, hb, hml, hown, hz⟩ (x_MD_greater l dC dI (g1 i) (s_0 i) (by omega)) (va_cwS 2 hz (z_gS wd_755 wd_756 wd_37 wd_757) rfl rfl rfl (by decide +kernel) ⟨Nat.le_of_ble_eq_true rfl, Nat.le_of_ble_eq_true rfl⟩) (zr_preS hK (hP.sub [] rfl) [] rfl z_true (fun _ _ _ => trivial)) rfl rfl hl.1 rfl (lv_room (Nat.le_of_ble_eq_true rfl)) dMD_measureCell_197 ⟨Nat.le_of_ble_eq_true rfl, Nat.le_of_ble_eq_true rfl⟩) (fun r87 h_r87 => ?_)
          have h_r87 : r87 = nI (if (g1 i) < (s_0 i) then (s_0 i) else (g1 i)) := h_r87
          subst h_r87
          refine va_iast hx hb hK hP hD hS 14 13 rfl rfl (vp_in_nI (by omega) (by omega)) dMD_measureCell_200 (fun H locs hP hD hS => ?_)
          have e_u := z_upd (f := zRz g1 s_0 (mm 2 k) i) (k := i) (v := if (g1 i) < (s_0 i) then (s_0 i) else (g1 i)) (by omega)
          have hP : va_P (dC, dI) vwCl [zob h0 6 [.int (nI mg), .ref b0, .ref b1, .int (nI n), .ref b2, .ref b3, .ref b4, .ref b5, .ref b6, .ref b7, .ref b8, .ref b9, .ref b10, .ref b11, .int (nI rg - nI 1), .int (nI rn), .int (nI ro), .int (nI sp), .int (nI gp), .int (nI fx), .ref b12, .ref b13, .ref b14, .ref b15, .ref b16, .ref b17], zar b0 kb0 8 (fun j => nI (mm 0 j)), zar b1 kb1 8 (fun j => nI (mm 1 j)), zar b2 kb2 40 (fun j => nI (mm 2 j)), zar b3 kb3 40 (fun j => nI (mm 3 j)), zar b4 kb4 40 (fun j => nI (mm 4 j)), zar b5 kb5 40 (fun j => nI (mm 5 j)), zar b6 kb6 40 (fun j => nI (mm 6 j)), zar b7 kb7 40 (fun j => nI (mm 7 j)), zar b8 kb8 40 (fun j => nI (mm 8 j)), zar b9 kb9 40 (fun j => nI (mm 9 j)), zar b10 kb10 40 (fun j => nI (mm 10 j)), zar b11 kb11 40 (fun j => nI (mm 11 j)), zar b12 kb12 12 (fun j => nI (s_0 j)), zar b13 kb13 12 (fun j => nI (va_up (zRz g1 s_0 (mm 2 k) i) i (if (g1 i) < (s_0 i) then (s_0 i) else (g1 i)) j)), zar b17 kb17 12 (fun j => nI (g1 j))] H := by rw [← e_u]; exact hP
          have hD : va_D A [zob h0 6 [.int (nI mg), .ref b0, .ref b1, .int (nI n), .ref b2, .ref b3, .ref b4, .ref b5, .ref b6, .ref b7, .ref b8, .ref b9, .ref b10, .ref b11, .int (nI rg - nI 1), .int (nI rn), .int (nI ro), .int (nI sp), .int (nI gp), .int (nI fx), .ref b12, .ref b13, .ref b14, .ref b15, .ref b16, .ref b17], zar b0 kb0 8 (fun j => nI (mm 0 j)), zar b1 kb1 8 (fun j => nI (mm 1 j)), zar b2 kb2 40 (fun j => nI (mm 2 j)), zar b3 kb3 40 (fun j => nI (mm 3 j)), zar b4 kb4 40 (fun j => nI (mm 4 j)), zar b5 kb5 40 (fun j => nI (mm 5 j)), zar b6 kb6 40 (fun j => nI (mm 6 j)), zar b7 kb7 40 (fun j => nI (mm 7 j)), zar b8 kb8 40 (fun j => nI (mm 8 j)), zar b9 kb9 40 (fun j => nI (mm 9 j)), zar b10 kb10 40 (fun j => nI (mm 10 j)), zar b11 kb11 40 (fun j => nI (mm 11 j)), zar b12 kb12 12 (fun j => nI (s_0 j)), zar b13 kb13 12 (fun j => nI (va_up (zRz g1 s_0 (mm 2 k) i) i (if (g1 i) < (s_0 i) then (s_0 i) else (g1 i)) j)), zar b17 kb17 12 (fun j => nI (g1 j))] := by rw [← e_u]; exact hD
          refine lv_iinc (k := 0) (v := nI (i + 1)) hx hb dMD_measureCell_201 hl rfl (by rw [show Int32.ofInt 1 = nI 1 from by decide]; exact nI_add _ _) (Nat.le_of_ble_eq_true rfl) rfl (fun ls hl => ?_)
          have hl : lv_has ls 8 [(7, .int (nI (i + 1))), (3, .int (nI (mm 2 k + mm 4 k))), (2, .int (nI (mm 2 k))), (1, .int (nI k)), (0, .ref h0)] := hl
          refine lv_goto (tgt := 171) hx hb dMD_measureCell_204 rfl ?_
          rw [zRz_s (by omega)] at hP hD
          exact ih () ls H locs ⟨lv_sub hl [0, 1, 2, 3, 4] rfl, by omega, hP, hD, hS⟩
      · have h_hi := z_nle h_hi
        refine lv_aload_n hx hb dMD_measureCell_156 rfl (lv_at hl 5 rfl) ?_
        refine lv_iload hx hb dMD_measureCell_157 (lv_at hl 0 rfl) ?_
        refine lv_topi (fun x88 e89 => ?_)
        have e89 : x88 = nI (mm 8 k - (zRs g1 (mm 2 k) (mm 2 k + mm 4 k) + gp * (mm 4 k - 1))) := e89.trans (pk_sub (by omega))
        subst e89
        refine lv_aload_n hx hb dMD_measureCell_159 rfl (lv_at hl 5 rfl) ?_
        refine va_get (D := (dC, dI)) (ci := 6) (v := .ref b13) (C := RMD) (T := TMD) (N := 26) hx hb hz in_MD hown hK hP 0 rfl rfl 21 (by decide) (hz _ wd_605) (fun _ h9 => h9) rfl dMD_measureCell_160 ?_
        refine lv_iload_n hx hb dMD_measureCell_163 rfl (lv_at hl 4 rfl) ?_
        refine lv_iload_n hx hb dMD_measureCell_164 rfl (lv_at hl 3 rfl) ?_
        refine zw_callv (wr := [zar b0 kb0 8 (fun j => nI (mm 0 j)), zar b1 kb1 8 (fun j => nI (mm 1 j)), zar b2 kb2 40 (fun j => nI (mm 2 j)), zar b3 kb3 40 (fun j => nI (mm 3 j)), zar b4 kb4 40 (fun j => nI (mm 4 j)), zar b5 kb5 40 (fun j => nI (mm 5 j)), zar b6 kb6 40 (fun j => nI (mm 6 j)), zar b7 kb7 40 (fun j => nI (mm 7 j)), zar b8 kb8 40 (fun j => nI (mm 8 j)), zar b9 kb9 40 (fun j => nI (mm 9 j)), zar b10 kb10 40 (fun j => nI (mm 10 j)), zar b11 kb11 40 (fun j => nI (mm 11 j)), zar b12 kb12 12 (fun j => nI (s_0 j))]) hK hP hD hS hA [0, 15, 14] [1, 2, 3, 4, 5, 6, 7, 8, 9, 10, 11, 12, 13] rfl rfl (by decide) (by decide) (va_runV (As := [.int (nI (mm 8 k - (zRs g1 (mm 2 k) (mm 2 k + mm 4 k) + gp * (mm 4 k - 1)))), .ref b13, .int (nI (mm 2 k)), .int (nI ((mm 2 k) + (mm 4 k)))]) (rest := []) ⟨hx, hb, hml, hown, hz⟩ ((x_MD_share l dC dI h0 b0 b1 b2 b3 b4 b5 b6 b7 b8 b9 b10 b11 b12 b13 b14 b15 b16 b17 mg n _ rn ro sp gp fx kb17 g1 (mm 8 k - (zRs g1 (mm 2 k) (mm 2 k + mm 4 k) + gp * (mm 4 k - 1))) b13 kb13 g1 (mm 2 k) ((mm 2 k) + (mm 4 k)) (by omega) (by omega) (by omega) (hMb) (hMb) (by omega)) H.size) (cwV 4 hz (z_gV wd_765 wd_767 wd_23 wd_37 wd_768) rfl rfl rfl (by decide +kernel) ⟨Nat.le_of_ble_eq_true rfl, Nat.le_of_ble_eq_true rfl⟩) (zw_preV (q0 := 0) (q := (RMD, TMD, 26)) hK hP hD rfl rfl [0, 15, 14] (by decide) rfl [14, 13] rfl z_true (fun _ _ _ => trivial)) rfl rfl hl.1 rfl (lv_room (Nat.le_of_ble_eq_true rfl)) dMD_measureCell_165 ⟨Nat.le_of_ble_eq_true rfl, Nat.le_of_ble_eq_true rfl⟩) (fun u H locs h_s1 hP hD hK hS => ?_)
        obtain ⟨s_1, rfl⟩ : ∃ z, z = u := ⟨_, rfl⟩
        have hP : va_P (dC, dI) vwCl [zob h0 6 [.int (nI mg), .ref b0, .ref b1, .int (nI n), .ref b2, .ref b3, .ref b4, .ref b5, .ref b6, .ref b7, .ref b8, .ref b9, .ref b10, .ref b11, .int (nI rg - nI 1), .int (nI rn), .int (nI ro), .int (nI sp), .int (nI gp), .int (nI fx), .ref b12, .ref b13, .ref b14, .ref b15, .ref b16, .ref b17], zar b0 kb0 8 (fun j => nI (mm 0 j)), zar b1 kb1 8 (fun j => nI (mm 1 j)), zar b2 kb2 40 (fun j => nI (mm 2 j)), zar b3 kb3 40 (fun j => nI (mm 3 j)), zar b4 kb4 40 (fun j => nI (mm 4 j)), zar b5 kb5 40 (fun j => nI (mm 5 j)), zar b6 kb6 40 (fun j => nI (mm 6 j)), zar b7 kb7 40 (fun j => nI (mm 7 j)), zar b8 kb8 40 (fun j => nI (mm 8 j)), zar b9 kb9 40 (fun j => nI (mm 9 j)), zar b10 kb10 40 (fun j => nI (mm 10 j)), zar b11 kb11 40 (fun j => nI (mm 11 j)), zar b12 kb12 12 (fun j => nI (s_0 j)), zar b13 kb13 12 (fun j => nI (s_1 j)), zar b17 kb17 12 (fun j => nI (g1 j))] H := hP.sub [13, 0, 1, 2, 3, 4, 5, 6, 7, 8, 9, 10, 11, 12, 15, 14] rfl
        have hD : va_D A [zob h0 6 [.int (nI mg), .ref b0, .ref b1, .int (nI n), .ref b2, .ref b3, .ref b4, .ref b5, .ref b6, .ref b7, .ref b8, .ref b9, .ref b10, .ref b11, .int (nI rg - nI 1), .int (nI rn), .int (nI ro), .int (nI sp), .int (nI gp), .int (nI fx), .ref b12, .ref b13, .ref b14, .ref b15, .ref b16, .ref b17], zar b0 kb0 8 (fun j => nI (mm 0 j)), zar b1 kb1 8 (fun j => nI (mm 1 j)), zar b2 kb2 40 (fun j => nI (mm 2 j)), zar b3 kb3 40 (fun j => nI (mm 3 j)), zar b4 kb4 40 (fun j => nI (mm 4 j)), zar b5 kb5 40 (fun j => nI (mm 5 j)), zar b6 kb6 40 (fun j => nI (mm 6 j)), zar b7 kb7 40 (fun j => nI (mm 7 j)), zar b8 kb8 40 (fun j => nI (mm 8 j)), zar b9 kb9 40 (fun j => nI (mm 9 j)), zar b10 kb10 40 (fun j => nI (mm 10 j)), zar b11 kb11 40 (fun j => nI (mm 11 j)), zar b12 kb12 12 (fun j => nI (s_0 j)), zar b13 kb13 12 (fun j => nI (s_1 j)), zar b17 kb17 12 (fun j => nI (g1 j))] := hD.sub [13, 0, 1, 2, 3, 4, 5, 6, 7, 8, 9, 10, 11, 12, 15, 14] (by decide) rfl
        have hK : va_K (dC, dI) vwCl [(kb0, .int), (kb1, .int), (kb2, .int), (kb3, .int), (kb4, .int), (kb5, .int), (kb6, .int), (kb7, .int), (kb8, .int), (kb9, .int), (kb10, .int), (kb11, .int), (kb12, .int), (kb13, .int), (kb17, .int)] s := hK
        have h_s1 : s_1 = zShr g1 g1 (mm 8 k - (zRs g1 (mm 2 k) (mm 2 k + mm 4 k) + gp * (mm 4 k - 1))) (mm 2 k) ((mm 2 k) + (mm 4 k)) := h_s1
        refine lv_iload_n hx hb dMD_measureCell_168 rfl (lv_at hl 4 rfl) ?_
        refine lv_istore hx hb dMD_measureCell_169 hl (Nat.le_of_ble_eq_true rfl) rfl (fun ls hl => ?_)
        have hl : lv_has ls 8 [(7, .int (nI (mm 2 k))), (6, .int (nI (mm 8 k) - nI (zRs g1 (mm 2 k) (mm 2 k + mm 4 k) + gp * (mm 4 k - 1)))), (5, .int (nI (mm 7 k) - nI (zRs g0 (mm 2 k) (mm 2 k + mm 4 k) + gp * (mm 4 k - 1)))), (4, .int (nI (gp * ((mm 4 k) - 1)))), (3, .int (nI ((mm 2 k) + (mm 4 k)))), (2, .int (nI (mm 2 k))), (0, .ref h0), (1, .int (nI k))] := hl
        refine zl_upW (σ := Unit) (mm 2 k + mm 4 k) (fun i x9 ls H locs => lv_has ls 8 [(7, .int (nI i)), (3, .int (nI (mm 2 k + mm 4 k))), (2, .int (nI (mm 2 k))), (1, .int (nI k)), (0, .ref h0)] ∧ (mm 2 k ≤ i) ∧ va_P (dC, dI) vwCl [zob h0 6 [.int (nI mg), .ref b0, .ref b1, .int (nI n), .ref b2, .ref b3, .ref b4, .ref b5, .ref b6, .ref b7, .ref b8, .ref b9, .ref b10, .ref b11, .int (nI rg - nI 1), .int (nI rn), .int (nI ro), .int (nI sp), .int (nI gp), .int (nI fx), .ref b12, .ref b13, .ref b14, .ref b15, .ref b16, .ref b17], zar b0 kb0 8 (fun j => nI (mm 0 j)), zar b1 kb1 8 (fun j => nI (mm 1 j)), zar b2 kb2 40 (fun j => nI (mm 2 j)), zar b3 kb3 40 (fun j => nI (mm 3 j)), zar b4 kb4 40 (fun j => nI (mm 4 j)), zar b5 kb5 40 (fun j => nI (mm 5 j)), zar b6 kb6 40 (fun j => nI (mm 6 j)), zar b7 kb7 40 (fun j => nI (mm 7 j)), zar b8 kb8 40 (fun j => nI (mm 8 j)), zar b9 kb9 40 (fun j => nI (mm 9 j)), zar b10 kb10 40 (fun j => nI (mm 10 j)), zar b11 kb11 40 (fun j => nI (mm 11 j)), zar b12 kb12 12 (fun j => nI (s_0 j)), zar b13 kb13 12 (fun j => nI (zRz s_1 s_0 (mm 2 k) i j)), zar b17 kb17 12 (fun j => nI (g1 j))] H ∧ va_D A [zob h0 6 [.int (nI mg), .ref b0, .ref b1, .int (nI n), .ref b2, .ref b3, .ref b4, .ref b5, .ref b6, .ref b7, .ref b8, .ref b9, .ref b10, .ref b11, .int (nI rg - nI 1), .int (nI rn), .int (nI ro), .int (nI sp), .int (nI gp), .int (nI fx), .ref b12, .ref b13, .ref b14, .ref b15, .ref b16, .ref b17], zar b0 kb0 8 (fun j => nI (mm 0 j)), zar b1 kb1 8 (fun j => nI (mm 1 j)), zar b2 kb2 40 (fun j => nI (mm 2 j)), zar b3 kb3 40 (fun j => nI (mm 3 j)), zar b4 kb4 40 (fun j => nI (mm 4 j)), zar b5 kb5 40 (fun j => nI (mm 5 j)), zar b6 kb6 40 (fun j => nI (mm 6 j)), zar b7 kb7 40 (fun j => nI (mm 7 j)), zar b8 kb8 40 (fun j => nI (mm 8 j)), zar b9 kb9 40 (fun j => nI (mm 9 j)), zar b10 kb10 40 (fun j => nI (mm 10 j)), zar b11 kb11 40 (fun j => nI (mm 11 j)), zar b12 kb12 12 (fun j => nI (s_0 j)), zar b13 kb13 12 (fun j => nI (zRz s_1 s_0 (mm 2 k) i j)), zar b17 kb17 12 (fun j => nI (g1 j))] ∧ va_S A s.heap H locs) ?_ ?_ (mm 2 k) (by omega) () ls H locs ⟨lv_sub hl [0, 4, 5, 7, 6] rfl, Nat.le_refl _, by rw [zRz_0]; exact hP, by rw [zRz_0]; exact hD, hS⟩
        · intro x9 ls H locs hI
          obtain ⟨hl, hxI, hP, hD, hS⟩ := hI
          have hl : lv_has ls 8 [(7, .int (nI (mm 2 k + mm 4 k))), (3, .int (nI (mm 2 k + mm 4 k))), (2, .int (nI (mm 2 k))), (1, .int (nI k)), (0, .ref h0)] := hl
          have hP : va_P (dC, dI) vwCl [zob h0 6 [.int (nI mg), .ref b0, .ref b1, .int (nI n), .ref b2, .ref b3, .ref b4, .ref b5, .ref b6, .ref b7, .ref b8, .ref b9, .ref b10, .ref b11, .int (nI rg - nI 1), .int (nI rn), .int (nI ro), .int (nI sp), .int (nI gp), .int (nI fx), .ref b12, .ref b13, .ref b14, .ref b15, .ref b16, .ref b17], zar b0 kb0 8 (fun j => nI (mm 0 j)), zar b1 kb1 8 (fun j => nI (mm 1 j)), zar b2 kb2 40 (fun j => nI (mm 2 j)), zar b3 kb3 40 (fun j => nI (mm 3 j)), zar b4 kb4 40 (fun j => nI (mm 4 j)), zar b5 kb5 40 (fun j => nI (mm 5 j)), zar b6 kb6 40 (fun j => nI (mm 6 j)), zar b7 kb7 40 (fun j => nI (mm 7 j)), zar b8 kb8 40 (fun j => nI (mm 8 j)), zar b9 kb9 40 (fun j => nI (mm 9 j)), zar b10 kb10 40 (fun j => nI (mm 10 j)), zar b11 kb11 40 (fun j => nI (mm 11 j)), zar b12 kb12 12 (fun j => nI (s_0 j)), zar b13 kb13 12 (fun j => nI (zRz s_1 s_0 (mm 2 k) (mm 2 k + mm 4 k) j)), zar b17 kb17 12 (fun j => nI (g1 j))] H := hP
          have hD : va_D A [zob h0 6 [.int (nI mg), .ref b0, .ref b1, .int (nI n), .ref b2, .ref b3, .ref b4, .ref b5, .ref b6, .ref b7, .ref b8, .ref b9, .ref b10, .ref b11, .int (nI rg - nI 1), .int (nI rn), .int (nI ro), .int (nI sp), .int (nI gp), .int (nI fx), .ref b12, .ref b13, .ref b14, .ref b15, .ref b16, .ref b17], zar b0 kb0 8 (fun j => nI (mm 0 j)), zar b1 kb1 8 (fun j => nI (mm 1 j)), zar b2 kb2 40 (fun j => nI (mm 2 j)), zar b3 kb3 40 (fun j => nI (mm 3 j)), zar b4 kb4 40 (fun j => nI (mm 4 j)), zar b5 kb5 40 (fun j => nI (mm 5 j)), zar b6 kb6 40 (fun j => nI (mm 6 j)), zar b7 kb7 40 (fun j => nI (mm 7 j)), zar b8 kb8 40 (fun j => nI (mm 8 j)), zar b9 kb9 40 (fun j => nI (mm 9 j)), zar b10 kb10 40 (fun j => nI (mm 10 j)), zar b11 kb11 40 (fun j => nI (mm 11 j)), zar b12 kb12 12 (fun j => nI (s_0 j)), zar b13 kb13 12 (fun j => nI (zRz s_1 s_0 (mm 2 k) (mm 2 k + mm 4 k) j)), zar b17 kb17 12 (fun j => nI (g1 j))] := hD
          refine lv_iload hx hb dMD_measureCell_171 (lv_at hl 0 rfl) ?_
          refine lv_iload_n hx hb dMD_measureCell_173 rfl (lv_at hl 1 rfl) ?_
          have t90 := hm 2 k
          have t91 := hm 4 k
          have t92 := nI_toInt (n := mm 2 k + mm 4 k) (by omega)
          have t93 := hm 2 k
          have t94 := hm 4 k
          have t95 := nI_toInt (n := mm 2 k + mm 4 k) (by omega)
          refine lv_icmp_ge (tgt := 207) hx hb dMD_measureCell_174 rfl (fun _ => ?_) (fun h => by have h := z_nle h; omega)
          subst hQ
          exact zw_vret (D := (dC, dI)) (cl := vwCl) (A := A) (s_0, zRz s_1 s_0 (mm 2 k) (mm 2 k + mm 4 k), fun j => nI (g1 j)) hx hb hr hlocks (z_fitof (h_s0.trans (by rw [← e_0]; exact (zStr_T (by omega)).symm)) (h_s1.trans (by rw [← e_1]; exact (zStr_T (by omega)).symm))) (hP.sub [0, 1, 2, 3, 4, 5, 6, 7, 8, 9, 10, 11, 12, 13, 14, 15] rfl) (hK.sub [] rfl) (hD.sub [0, 1, 2, 3, 4, 5, 6, 7, 8, 9, 10, 11, 12, 13, 14, 15] (by decide) rfl) hS dMD_measureCell_207
        · intro i hi ih
          intro x9 ls H locs hI
          obtain ⟨hl, hxI, hP, hD, hS⟩ := hI
          have hl : lv_has ls 8 [(7, .int (nI i)), (3, .int (nI (mm 2 k + mm 4 k))), (2, .int (nI (mm 2 k))), (1, .int (nI k)), (0, .ref h0)] := hl
          have hP : va_P (dC, dI) vwCl [zob h0 6 [.int (nI mg), .ref b0, .ref b1, .int (nI n), .ref b2, .ref b3, .ref b4, .ref b5, .ref b6, .ref b7, .ref b8, .ref b9, .ref b10, .ref b11, .int (nI rg - nI 1), .int (nI rn), .int (nI ro), .int (nI sp), .int (nI gp), .int (nI fx), .ref b12, .ref b13, .ref b14, .ref b15, .ref b16, .ref b17], zar b0 kb0 8 (fun j => nI (mm 0 j)), zar b1 kb1 8 (fun j => nI (mm 1 j)), zar b2 kb2 40 (fun j => nI (mm 2 j)), zar b3 kb3 40 (fun j => nI (mm 3 j)), zar b4 kb4 40 (fun j => nI (mm 4 j)), zar b5 kb5 40 (fun j => nI (mm 5 j)), zar b6 kb6 40 (fun j => nI (mm 6 j)), zar b7 kb7 40 (fun j => nI (mm 7 j)), zar b8 kb8 40 (fun j => nI (mm 8 j)), zar b9 kb9 40 (fun j => nI (mm 9 j)), zar b10 kb10 40 (fun j => nI (mm 10 j)), zar b11 kb11 40 (fun j => nI (mm 11 j)), zar b12 kb12 12 (fun j => nI (s_0 j)), zar b13 kb13 12 (fun j => nI (zRz s_1 s_0 (mm 2 k) i j)), zar b17 kb17 12 (fun j => nI (g1 j))] H := hP
          have hD : va_D A [zob h0 6 [.int (nI mg), .ref b0, .ref b1, .int (nI n), .ref b2, .ref b3, .ref b4, .ref b5, .ref b6, .ref b7, .ref b8, .ref b9, .ref b10, .ref b11, .int (nI rg - nI 1), .int (nI rn), .int (nI ro), .int (nI sp), .int (nI gp), .int (nI fx), .ref b12, .ref b13, .ref b14, .ref b15, .ref b16, .ref b17], zar b0 kb0 8 (fun j => nI (mm 0 j)), zar b1 kb1 8 (fun j => nI (mm 1 j)), zar b2 kb2 40 (fun j => nI (mm 2 j)), zar b3 kb3 40 (fun j => nI (mm 3 j)), zar b4 kb4 40 (fun j => nI (mm 4 j)), zar b5 kb5 40 (fun j => nI (mm 5 j)), zar b6 kb6 40 (fun j => nI (mm 6 j)), zar b7 kb7 40 (fun j => nI (mm 7 j)), zar b8 kb8 40 (fun j => nI (mm 8 j)), zar b9 kb9 40 (fun j => nI (mm 9 j)), zar b10 kb10 40 (fun j => nI (mm 10 j)), zar b11 kb11 40 (fun j => nI (mm 11 j)), zar b12 kb12 12 (fun j => nI (s_0 j)), zar b13 kb13 12 (fun j => nI (zRz s_1 s_0 (mm 2 k) i j)), zar b17 kb17 12 (fun j => nI (g1 j))] := hD
          refine lv_iload hx hb dMD_measureCell_171 (lv_at hl 0 rfl) ?_
          refine lv_iload_n hx hb dMD_measureCell_173 rfl (lv_at hl 1 rfl) ?_
          have t96 := nI_toInt (n := i) (by omega)
          have t97 := hm 2 k
          have t98 := hm 4 k
          have t99 := nI_toInt (n := mm 2 k + mm 4 k) (by omega)
          refine lv_icmp_ge (tgt := 207) hx hb dMD_measureCell_174 rfl (fun h => by have h := z_le h; omega) (fun _ => ?_)
          refine lv_aload_n hx hb dMD_measureCell_177 rfl (lv_at hl 4 rfl) ?_
          refine va_get (D := (dC, dI)) (ci := 6) (v := .ref b13) (C := RMD) (T := TMD) (N := 26) hx hb hz in_MD hown hK hP 0 rfl rfl 21 (by decide) (hz _ wd_605) (fun _ h9 => h9) rfl dMD_measureCell_178 ?_
          refine lv_iload hx hb dMD_measureCell_181 (lv_at hl 0 rfl) ?_
          refine lv_aload_n hx hb dMD_measureCell_183 rfl (lv_at hl 4 rfl) ?_
          refine va_get (D := (dC, dI)) (ci := 6) (v := .ref b13) (C := RMD) (T := TMD) (N := 26) hx hb hz in_MD hown hK hP 0 rfl rfl 21 (by decide) (hz _ wd_605) (fun _ h9 => h9) rfl dMD_measureCell_184 ?_
          refine lv_iload hx hb dMD_measureCell_187 (lv_at hl 0 rfl) ?_
          refine va_iald hx hb hK hP 14 13 rfl rfl (vp_in_nI (by omega) (by omega)) dMD_measureCell_189 ?_
          refine lv_topi (fun x100 e101 => ?_)
          have e101 : x100 = nI (s_1 i) := e101.trans (by show nI (zRz s_1 s_0 (mm 2 k) i (nI i).toNatClampNeg) = _; rw [nI_clamp (by omega), zRz_at])
          subst e101
          refine lv_aload_n hx hb dMD_measureCell_190 rfl (lv_at hl 4 rfl) ?_
          refine va_get (D := (dC, dI)) (ci := 6) (v := .ref b12) (C := RMD) (T := TMD) (N := 26) hx hb hz in_MD hown hK hP 0 rfl rfl 20 (by decide) (hz _ wd_604) (fun _ h9 => h9) rfl dMD_measureCell_191 ?_
          refine lv_iload hx hb dMD_measureCell_194 (lv_at hl 0 rfl) ?_
          refine va_iald hx hb hK hP 13 12 rfl rfl (vp_in_nI (by omega) (by omega)) dMD_measureCell_196 ?_
          refine lv_topi (fun x102 e103 => ?_)
          have e103 : x102 = nI (s_0 i) := e103.trans (by show nI (s_0 (nI i).toNatClampNeg) = _; rw [nI_clamp (by omega)])
          subst e103
          have hx1 : s_1 i ≤ 40000 := by rw [h_s1]; exact z_shl (by omega) hMb (by omega) i
          have hx0 : s_0 i ≤ 40000 := by rw [h_s0]; exact z_shl (by omega) hLb (by omega) i
          refine vp_callSi (W.runS (As := [.int (nI (s_1 i)), .int (nI (s_0 i))]) (rest := [.int (nI i), .ref b13]) ⟨hx, hb, hml, hown, hz⟩ (x_MD_greater l dC dI (s_1 i) (s_0 i) (by omega)) (va_cwS 2 hz (z_gS wd_755 wd_756 wd_37 wd_757) rfl rfl rfl (by decide +kernel) ⟨Nat.le_of_ble_eq_true rfl, Nat.le_of_ble_eq_true rfl⟩) (zr_preS hK (hP.sub [] rfl) [] rfl z_true (fun _ _ _ => trivial)) rfl rfl hl.1 rfl (lv_room (Nat.le_of_ble_eq_true rfl)) dMD_measureCell_197 ⟨Nat.le_of_ble_eq_true rfl, Nat.le_of_ble_eq_true rfl⟩) (fun r104 h_r104 => ?_)
          have h_r104 : r104 = nI (if (s_1 i) < (s_0 i) then (s_0 i) else (s_1 i)) := h_r104
          subst h_r104
          refine va_iast hx hb hK hP hD hS 14 13 rfl rfl (vp_in_nI (by omega) (by omega)) dMD_measureCell_200 (fun H locs hP hD hS => ?_)
          have e_u := z_upd (f := zRz s_1 s_0 (mm 2 k) i) (k := i) (v := if (s_1 i) < (s_0 i) then (s_0 i) else (s_1 i)) (by omega)
          have hP : va_P (dC, dI) vwCl [zob h0 6 [.int (nI mg), .ref b0, .ref b1, .int (nI n), .ref b2, .ref b3, .ref b4, .ref b5, .ref b6, .ref b7, .ref b8, .ref b9, .ref b10, .ref b11, .int (nI rg - nI 1), .int (nI rn), .int (nI ro), .int (nI sp), .int (nI gp), .int (nI fx), .ref b12, .ref b13, .ref b14, .ref b15, .ref b16, .ref b17], zar b0 kb0 8 (fun j => nI (mm 0 j)), zar b1 kb1 8 (fun j => nI (mm 1 j)), zar b2 kb2 40 (fun j => nI (mm 2 j)), zar b3 kb3 40 (fun j => nI (mm 3 j)), zar b4 kb4 40 (fun j => nI (mm 4 j)), zar b5 kb5 40 (fun j => nI (mm 5 j)), zar b6 kb6 40 (fun j => nI (mm 6 j)), zar b7 kb7 40 (fun j => nI (mm 7 j)), zar b8 kb8 40 (fun j => nI (mm 8 j)), zar b9 kb9 40 (fun j => nI (mm 9 j)), zar b10 kb10 40 (fun j => nI (mm 10 j)), zar b11 kb11 40 (fun j => nI (mm 11 j)), zar b12 kb12 12 (fun j => nI (s_0 j)), zar b13 kb13 12 (fun j => nI (va_up (zRz s_1 s_0 (mm 2 k) i) i (if (s_1 i) < (s_0 i) then (s_0 i) else (s_1 i)) j)), zar b17 kb17 12 (fun j => nI (g1 j))] H := by rw [← e_u]; exact hP
          have hD : va_D A [zob h0 6 [.int (nI mg), .ref b0, .ref b1, .int (nI n), .ref b2, .ref b3, .ref b4, .ref b5, .ref b6, .ref b7, .ref b8, .ref b9, .ref b10, .ref b11, .int (nI rg - nI 1), .int (nI rn), .int (nI ro), .int (nI sp), .int (nI gp), .int (nI fx), .ref b12, .ref b13, .ref b14, .ref b15, .ref b16, .ref b17], zar b0 kb0 8 (fun j => nI (mm 0 j)), zar b1 kb1 8 (fun j => nI (mm 1 j)), zar b2 kb2 40 (fun j => nI (mm 2 j)), zar b3 kb3 40 (fun j => nI (mm 3 j)), zar b4 kb4 40 (fun j => nI (mm 4 j)), zar b5 kb5 40 (fun j => nI (mm 5 j)), zar b6 kb6 40 (fun j => nI (mm 6 j)), zar b7 kb7 40 (fun j => nI (mm 7 j)), zar b8 kb8 40 (fun j => nI (mm 8 j)), zar b9 kb9 40 (fun j => nI (mm 9 j)), zar b10 kb10 40 (fun j => nI (mm 10 j)), zar b11 kb11 40 (fun j => nI (mm 11 j)), zar b12 kb12 12 (fun j => nI (s_0 j)), zar b13 kb13 12 (fun j => nI (va_up (zRz s_1 s_0 (mm 2 k) i) i (if (s_1 i) < (s_0 i) then (s_0 i) else (s_1 i)) j)), zar b17 kb17 12 (fun j => nI (g1 j))] := by rw [← e_u]; exact hD
          refine lv_iinc (k := 0) (v := nI (i + 1)) hx hb dMD_measureCell_201 hl rfl (by rw [show Int32.ofInt 1 = nI 1 from by decide]; exact nI_add _ _) (Nat.le_of_ble_eq_true rfl) rfl (fun ls hl => ?_)
          have hl : lv_has ls 8 [(7, .int (nI (i + 1))), (3, .int (nI (mm 2 k + mm 4 k))), (2, .int (nI (mm 2 k))), (1, .int (nI k)), (0, .ref h0)] := hl
          refine lv_goto (tgt := 171) hx hb dMD_measureCell_204 rfl ?_
          rw [zRz_s (by omega)] at hP hD
          exact ih () ls H locs ⟨lv_sub hl [0, 1, 2, 3, 4] rfl, by omega, hP, hD, hS⟩
  · have h_c := z_eq h_c
    refine lv_aload_n hx hb dMD_measureCell_26 rfl (lv_at hl 2 rfl) ?_
    refine va_get (D := (dC, dI)) (ci := 6) (v := .ref b12) (C := RMD) (T := TMD) (N := 26) hx hb hz in_MD hown hK hP 0 rfl rfl 20 (by decide) (hz _ wd_604) (fun _ h9 => h9) rfl dMD_measureCell_27 ?_
    refine lv_iload_n hx hb dMD_measureCell_30 rfl (lv_at hl 1 rfl) ?_
    refine lv_aload_n hx hb dMD_measureCell_31 rfl (lv_at hl 2 rfl) ?_
    refine va_get (D := (dC, dI)) (ci := 6) (v := .ref b12) (C := RMD) (T := TMD) (N := 26) hx hb hz in_MD hown hK hP 0 rfl rfl 20 (by decide) (hz _ wd_604) (fun _ h9 => h9) rfl dMD_measureCell_32 ?_
    refine lv_iload_n hx hb dMD_measureCell_35 rfl (lv_at hl 1 rfl) ?_
    refine va_iald hx hb hK hP 13 12 rfl rfl (vp_in_nI (by omega) (by omega)) dMD_measureCell_36 ?_
    refine lv_topi (fun x105 e106 => ?_)
    have e106 : x105 = nI (g0 (mm 2 k)) := e106.trans (by show nI (g0 (nI (mm 2 k)).toNatClampNeg) = _; rw [nI_clamp (by omega)])
    subst e106
    refine lv_aload_n hx hb dMD_measureCell_37 rfl (lv_at hl 2 rfl) ?_
    refine va_get (D := (dC, dI)) (ci := 6) (v := .ref b7) (C := RMD) (T := TMD) (N := 26) hx hb hz in_MD hown hK hP 0 rfl rfl 9 (by decide) (hz _ wd_593) (fun _ h9 => h9) rfl dMD_measureCell_38 ?_
    refine lv_iload_n hx hb dMD_measureCell_41 rfl (lv_at hl 3 rfl) ?_
    refine va_iald hx hb hK hP 8 7 rfl rfl (vp_in_nI (by omega) (by omega)) dMD_measureCell_42 ?_
    refine lv_topi (fun x107 e108 => ?_)
    have e108 : x107 = nI (mm 7 k) := e108.trans (by show nI (mm 7 (nI k).toNatClampNeg) = _; rw [nI_clamp (by omega)])
    subst e108
    refine vp_callSi (W.runS (As := [.int (nI (g0 (mm 2 k))), .int (nI (mm 7 k))]) (rest := [.int (nI (mm 2 k)), .ref b12]) ⟨hx, hb, hml, hown, hz⟩ (x_MD_greater l dC dI (g0 (mm 2 k)) (mm 7 k) (by omega)) (va_cwS 2 hz (z_gS wd_755 wd_756 wd_37 wd_757) rfl rfl rfl (by decide +kernel) ⟨Nat.le_of_ble_eq_true rfl, Nat.le_of_ble_eq_true rfl⟩) (zr_preS hK (hP.sub [] rfl) [] rfl z_true (fun _ _ _ => trivial)) rfl rfl hl.1 rfl (lv_room (Nat.le_of_ble_eq_true rfl)) dMD_measureCell_43 ⟨Nat.le_of_ble_eq_true rfl, Nat.le_of_ble_eq_true rfl⟩) (fun r109 h_r109 => ?_)
    have h_r109 : r109 = nI (if (g0 (mm 2 k)) < (mm 7 k) then (mm 7 k) else (g0 (mm 2 k))) := h_r109
    subst h_r109
    refine va_iast hx hb hK hP hD hS 13 12 rfl rfl (vp_in_nI (by omega) (by omega)) dMD_measureCell_46 (fun H locs hP hD hS => ?_)
    have e_u := z_upd (f := g0) (k := mm 2 k) (v := if (g0 (mm 2 k)) < (mm 7 k) then (mm 7 k) else (g0 (mm 2 k))) (by omega)
    have hP : va_P (dC, dI) vwCl [zob h0 6 [.int (nI mg), .ref b0, .ref b1, .int (nI n), .ref b2, .ref b3, .ref b4, .ref b5, .ref b6, .ref b7, .ref b8, .ref b9, .ref b10, .ref b11, .int (nI rg - nI 1), .int (nI rn), .int (nI ro), .int (nI sp), .int (nI gp), .int (nI fx), .ref b12, .ref b13, .ref b14, .ref b15, .ref b16, .ref b17], zar b0 kb0 8 (fun j => nI (mm 0 j)), zar b1 kb1 8 (fun j => nI (mm 1 j)), zar b2 kb2 40 (fun j => nI (mm 2 j)), zar b3 kb3 40 (fun j => nI (mm 3 j)), zar b4 kb4 40 (fun j => nI (mm 4 j)), zar b5 kb5 40 (fun j => nI (mm 5 j)), zar b6 kb6 40 (fun j => nI (mm 6 j)), zar b7 kb7 40 (fun j => nI (mm 7 j)), zar b8 kb8 40 (fun j => nI (mm 8 j)), zar b9 kb9 40 (fun j => nI (mm 9 j)), zar b10 kb10 40 (fun j => nI (mm 10 j)), zar b11 kb11 40 (fun j => nI (mm 11 j)), zar b12 kb12 12 (fun j => nI (va_up g0 (mm 2 k) (if (g0 (mm 2 k)) < (mm 7 k) then (mm 7 k) else (g0 (mm 2 k))) j)), zar b13 kb13 12 (fun j => nI (g1 j)), zar b17 kb17 12 g5] H := by rw [← e_u]; exact hP
    have hD : va_D A [zob h0 6 [.int (nI mg), .ref b0, .ref b1, .int (nI n), .ref b2, .ref b3, .ref b4, .ref b5, .ref b6, .ref b7, .ref b8, .ref b9, .ref b10, .ref b11, .int (nI rg - nI 1), .int (nI rn), .int (nI ro), .int (nI sp), .int (nI gp), .int (nI fx), .ref b12, .ref b13, .ref b14, .ref b15, .ref b16, .ref b17], zar b0 kb0 8 (fun j => nI (mm 0 j)), zar b1 kb1 8 (fun j => nI (mm 1 j)), zar b2 kb2 40 (fun j => nI (mm 2 j)), zar b3 kb3 40 (fun j => nI (mm 3 j)), zar b4 kb4 40 (fun j => nI (mm 4 j)), zar b5 kb5 40 (fun j => nI (mm 5 j)), zar b6 kb6 40 (fun j => nI (mm 6 j)), zar b7 kb7 40 (fun j => nI (mm 7 j)), zar b8 kb8 40 (fun j => nI (mm 8 j)), zar b9 kb9 40 (fun j => nI (mm 9 j)), zar b10 kb10 40 (fun j => nI (mm 10 j)), zar b11 kb11 40 (fun j => nI (mm 11 j)), zar b12 kb12 12 (fun j => nI (va_up g0 (mm 2 k) (if (g0 (mm 2 k)) < (mm 7 k) then (mm 7 k) else (g0 (mm 2 k))) j)), zar b13 kb13 12 (fun j => nI (g1 j)), zar b17 kb17 12 g5] := by rw [← e_u]; exact hD
    refine lv_aload_n hx hb dMD_measureCell_47 rfl (lv_at hl 2 rfl) ?_
    refine va_get (D := (dC, dI)) (ci := 6) (v := .ref b13) (C := RMD) (T := TMD) (N := 26) hx hb hz in_MD hown hK hP 0 rfl rfl 21 (by decide) (hz _ wd_605) (fun _ h9 => h9) rfl dMD_measureCell_48 ?_
    refine lv_iload_n hx hb dMD_measureCell_51 rfl (lv_at hl 1 rfl) ?_
    refine lv_aload_n hx hb dMD_measureCell_52 rfl (lv_at hl 2 rfl) ?_
    refine va_get (D := (dC, dI)) (ci := 6) (v := .ref b13) (C := RMD) (T := TMD) (N := 26) hx hb hz in_MD hown hK hP 0 rfl rfl 21 (by decide) (hz _ wd_605) (fun _ h9 => h9) rfl dMD_measureCell_53 ?_
    refine lv_iload_n hx hb dMD_measureCell_56 rfl (lv_at hl 1 rfl) ?_
    refine va_iald hx hb hK hP 14 13 rfl rfl (vp_in_nI (by omega) (by omega)) dMD_measureCell_57 ?_
    refine lv_topi (fun x110 e111 => ?_)
    have e111 : x110 = nI (g1 (mm 2 k)) := e111.trans (by show nI (g1 (nI (mm 2 k)).toNatClampNeg) = _; rw [nI_clamp (by omega)])
    subst e111
    refine lv_aload_n hx hb dMD_measureCell_58 rfl (lv_at hl 2 rfl) ?_
    refine va_get (D := (dC, dI)) (ci := 6) (v := .ref b8) (C := RMD) (T := TMD) (N := 26) hx hb hz in_MD hown hK hP 0 rfl rfl 10 (by decide) (hz _ wd_594) (fun _ h9 => h9) rfl dMD_measureCell_59 ?_
    refine lv_iload_n hx hb dMD_measureCell_62 rfl (lv_at hl 3 rfl) ?_
    refine va_iald hx hb hK hP 9 8 rfl rfl (vp_in_nI (by omega) (by omega)) dMD_measureCell_63 ?_
    refine lv_topi (fun x112 e113 => ?_)
    have e113 : x112 = nI (mm 8 k) := e113.trans (by show nI (mm 8 (nI k).toNatClampNeg) = _; rw [nI_clamp (by omega)])
    subst e113
    refine vp_callSi (W.runS (As := [.int (nI (g1 (mm 2 k))), .int (nI (mm 8 k))]) (rest := [.int (nI (mm 2 k)), .ref b13]) ⟨hx, hb, hml, hown, hz⟩ (x_MD_greater l dC dI (g1 (mm 2 k)) (mm 8 k) (by omega)) (va_cwS 2 hz (z_gS wd_755 wd_756 wd_37 wd_757) rfl rfl rfl (by decide +kernel) ⟨Nat.le_of_ble_eq_true rfl, Nat.le_of_ble_eq_true rfl⟩) (zr_preS hK (hP.sub [] rfl) [] rfl z_true (fun _ _ _ => trivial)) rfl rfl hl.1 rfl (lv_room (Nat.le_of_ble_eq_true rfl)) dMD_measureCell_64 ⟨Nat.le_of_ble_eq_true rfl, Nat.le_of_ble_eq_true rfl⟩) (fun r114 h_r114 => ?_)
    have h_r114 : r114 = nI (if (g1 (mm 2 k)) < (mm 8 k) then (mm 8 k) else (g1 (mm 2 k))) := h_r114
    subst h_r114
    refine va_iast hx hb hK hP hD hS 14 13 rfl rfl (vp_in_nI (by omega) (by omega)) dMD_measureCell_67 (fun H locs hP hD hS => ?_)
    have e_u := z_upd (f := g1) (k := mm 2 k) (v := if (g1 (mm 2 k)) < (mm 8 k) then (mm 8 k) else (g1 (mm 2 k))) (by omega)
    have hP : va_P (dC, dI) vwCl [zob h0 6 [.int (nI mg), .ref b0, .ref b1, .int (nI n), .ref b2, .ref b3, .ref b4, .ref b5, .ref b6, .ref b7, .ref b8, .ref b9, .ref b10, .ref b11, .int (nI rg - nI 1), .int (nI rn), .int (nI ro), .int (nI sp), .int (nI gp), .int (nI fx), .ref b12, .ref b13, .ref b14, .ref b15, .ref b16, .ref b17], zar b0 kb0 8 (fun j => nI (mm 0 j)), zar b1 kb1 8 (fun j => nI (mm 1 j)), zar b2 kb2 40 (fun j => nI (mm 2 j)), zar b3 kb3 40 (fun j => nI (mm 3 j)), zar b4 kb4 40 (fun j => nI (mm 4 j)), zar b5 kb5 40 (fun j => nI (mm 5 j)), zar b6 kb6 40 (fun j => nI (mm 6 j)), zar b7 kb7 40 (fun j => nI (mm 7 j)), zar b8 kb8 40 (fun j => nI (mm 8 j)), zar b9 kb9 40 (fun j => nI (mm 9 j)), zar b10 kb10 40 (fun j => nI (mm 10 j)), zar b11 kb11 40 (fun j => nI (mm 11 j)), zar b12 kb12 12 (fun j => nI (va_up g0 (mm 2 k) (if (g0 (mm 2 k)) < (mm 7 k) then (mm 7 k) else (g0 (mm 2 k))) j)), zar b13 kb13 12 (fun j => nI (va_up g1 (mm 2 k) (if (g1 (mm 2 k)) < (mm 8 k) then (mm 8 k) else (g1 (mm 2 k))) j)), zar b17 kb17 12 g5] H := by rw [← e_u]; exact hP
    have hD : va_D A [zob h0 6 [.int (nI mg), .ref b0, .ref b1, .int (nI n), .ref b2, .ref b3, .ref b4, .ref b5, .ref b6, .ref b7, .ref b8, .ref b9, .ref b10, .ref b11, .int (nI rg - nI 1), .int (nI rn), .int (nI ro), .int (nI sp), .int (nI gp), .int (nI fx), .ref b12, .ref b13, .ref b14, .ref b15, .ref b16, .ref b17], zar b0 kb0 8 (fun j => nI (mm 0 j)), zar b1 kb1 8 (fun j => nI (mm 1 j)), zar b2 kb2 40 (fun j => nI (mm 2 j)), zar b3 kb3 40 (fun j => nI (mm 3 j)), zar b4 kb4 40 (fun j => nI (mm 4 j)), zar b5 kb5 40 (fun j => nI (mm 5 j)), zar b6 kb6 40 (fun j => nI (mm 6 j)), zar b7 kb7 40 (fun j => nI (mm 7 j)), zar b8 kb8 40 (fun j => nI (mm 8 j)), zar b9 kb9 40 (fun j => nI (mm 9 j)), zar b10 kb10 40 (fun j => nI (mm 10 j)), zar b11 kb11 40 (fun j => nI (mm 11 j)), zar b12 kb12 12 (fun j => nI (va_up g0 (mm 2 k) (if (g0 (mm 2 k)) < (mm 7 k) then (mm 7 k) else (g0 (mm 2 k))) j)), zar b13 kb13 12 (fun j => nI (va_up g1 (mm 2 k) (if (g1 (mm 2 k)) < (mm 8 k) then (mm 8 k) else (g1 (mm 2 k))) j)), zar b17 kb17 12 g5] := by rw [← e_u]; exact hD
    subst hQ
    exact zw_vret (D := (dC, dI)) (cl := vwCl) (A := A) (va_up g0 (mm 2 k) (if (g0 (mm 2 k)) < (mm 7 k) then (mm 7 k) else (g0 (mm 2 k))), va_up g1 (mm 2 k) (if (g1 (mm 2 k)) < (mm 8 k) then (mm 8 k) else (g1 (mm 2 k))), g5) hx hb hr hlocks (by rw [show mm 4 k = 1 by omega]; exact zFit_1 (hLM _) hlh) (hP.sub [0, 1, 2, 3, 4, 5, 6, 7, 8, 9, 10, 11, 12, 13, 14, 15] rfl) (hK.sub [] rfl) (hD.sub [0, 1, 2, 3, 4, 5, 6, 7, 8, 9, 10, 11, 12, 13, 14, 15] (by decide) rfl) hS dMD_measureCell_68
