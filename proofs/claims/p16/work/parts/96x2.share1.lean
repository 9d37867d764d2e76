set_option maxHeartbeats 4000000 in
set_option maxRecDepth 100000 in
theorem x_LI_shareOutA (l : Launch) (dC : Nat → ClassId) (dI : Nat → Nat → Nat) (T : va_W) (a : Nat) (qa : Nat) (ka : ClassId) (f : Nat → Nat) (am : Nat) (i0 : Nat) (e0 : Nat) (hi0 : i0 ≤ e0) (he0 : e0 ≤ 12) (hlt : i0 < e0) (hf : ∀ j, f j ≤ 20000) (ham : am ≤ 20000) : zw_Mv (S := (Nat → Nat)) l yLI_shareOut wLI_shareOut ({ frames := 1, cells := 0, slots := 0, locals := 24 }) [.ref a, .int (nI am), .ref a, .int (nI i0), .int (nI e0)] (dC, dI) vwCl ([zob a 4 [.ref qa], zar qa ka 12 (fun j => nI (f j))] ++ T) [(ka, .int)] (fun _ _ => True) (fun (f2 : Nat → Nat) => f2 = zShr f f am i0 e0) (fun (f2 : Nat → Nat) => ([zob a 4 [.ref qa], zar qa ka 12 (fun j => nI (f2 j))] ++ T)) (fun (f2 : Nat → Nat) => []) 0 0 := by
  refine zw_headv (cc := cLI_shareOut) (maxL := 12) (ret := none) (by decide +kernel) rfl (Nat.le_of_ble_eq_true rfl) ?_
  intro p e s m below meth c ls A F hnm hA hP hK hD hS hX hl
  obtain ⟨hx, hb, hml, hr, hlocks, hown, hts⟩ := F
  have hown : s.vm.findClass "SpannedCells$Lines" = some m.cls := hown
  have hz : ∀ w9 ∈ zT, w9.before [.ref a, .int (nI am), .ref a, .int (nI i0), .int (nI e0)].toArray s = true := fun w9 h => hts w9 (List.mem_cons_of_mem _ h)
  have hl : lv_has ls 12 [(0, .ref a), (1, .int (nI am)), (2, .ref a), (3, .int (nI i0)), (4, .int (nI e0))] := hl
  refine z_q (fun Q hQ => ?_)
  have hW := zRs_12 (f := f) (i0 := i0) hf he0
  have hLo : zLo f am i0 e0 ≤ am := by unfold zLo; omega
  refine lv_aload_n hx hb dLI_shareOut_0 rfl (lv_at hl 2 rfl) ?_
  refine lv_iload_n hx hb dLI_shareOut_1 rfl (lv_at hl 3 rfl) ?_
  refine lv_iload hx hb dLI_shareOut_2 (lv_at hl 4 rfl) ?_
  refine vp_callSi (W.runV (As := [.int (nI i0), .int (nI e0)]) (rest := []) ⟨hx, hb, hml, hown, hz⟩ (x_LI_sum l dC dI a qa ka (fun j => nI (f j)) f i0 e0 (by omega) (by omega) (fun _ _ _ => rfl)) (cwV 2 hz (z_gV wd_479 wd_480 wd_481 wd_35 wd_482) rfl rfl rfl (by decide +kernel) ⟨Nat.le_of_ble_eq_true rfl, Nat.le_of_ble_eq_true rfl⟩) (zr_preV hK (hP.sub [0, 1] rfl) (va_recv (q0 := 0) hK hP (q := (RLI, TLI, 1)) rfl rfl) [0] rfl z_true (fun _ _ _ => trivial)) rfl rfl hl.1 rfl (lv_room (Nat.le_of_ble_eq_true rfl)) dLI_shareOut_4 ⟨Nat.le_of_ble_eq_true rfl, Nat.le_of_ble_eq_true rfl⟩) (fun r1 h_r1 => ?_)
  have h_r1 : r1 = nI (zRs f i0 e0) := h_r1
  subst h_r1
  refine lv_istore hx hb dLI_shareOut_7 hl (Nat.le_of_ble_eq_true rfl) rfl (fun ls hl => ?_)
  have hl : lv_has ls 12 [(5, .int (nI (zRs f i0 e0))), (0, .ref a), (1, .int (nI am)), (2, .ref a), (3, .int (nI i0)), (4, .int (nI e0))] := hl
  refine lv_iload hx hb dLI_shareOut_9 (lv_at hl 0 rfl) ?_
  have t2 := nI_toInt (n := zRs f i0 e0) (by omega)
  have t3 : (0 : Int32).toInt = 0 := by decide
  refine lv_if_ne (tgt := 18) hx hb dLI_shareOut_11 rfl (fun h_a => ?_) (fun h_a => ?_)
  · have h_a := z_ne h_a
    have h_z : ¬ zRs f i0 e0 = 0 := by omega
    refine lv_iconst (v := nI 0) hx hb dLI_shareOut_18 (by decide) ?_
    refine lv_istore hx hb dLI_shareOut_19 hl (Nat.le_of_ble_eq_true rfl) rfl (fun ls hl => ?_)
    have hl : lv_has ls 12 [(6, .int (nI 0)), (5, .int (nI (zRs f i0 e0))), (0, .ref a), (1, .int (nI am)), (2, .ref a), (3, .int (nI i0)), (4, .int (nI e0))] := hl
    refine lv_iload hx hb dLI_shareOut_21 (lv_at hl 0 rfl) ?_
    refine lv_if_eq (tgt := 33) hx hb dLI_shareOut_23 rfl (fun _ => ?_) (fun h => absurd (by decide) h)
    refine lv_iload hx hb dLI_shareOut_33 (lv_at hl 1 rfl) ?_
    refine lv_istore hx hb dLI_shareOut_35 hl (Nat.le_of_ble_eq_true rfl) rfl (fun ls hl => ?_)
    have hl : lv_has ls 12 [(7, .int (nI (zRs f i0 e0))), (6, .int (nI 0)), (5, .int (nI (zRs f i0 e0))), (0, .ref a), (1, .int (nI am)), (2, .ref a), (3, .int (nI i0)), (4, .int (nI e0))] := hl
    refine lv_iload hx hb dLI_shareOut_37 (lv_at hl 0 rfl) ?_
    have t5 := nI_toInt (n := zRs f i0 e0) (by omega)
    have t6 : (0 : Int32).toInt = 0 := by decide
    refine lv_if_gt (tgt := 43) hx hb dLI_shareOut_39 rfl (fun _ => ?_) (fun h => by have h := z_nlt h; omega)
    refine lv_iload_n hx hb dLI_shareOut_43 rfl (lv_at hl 4 rfl) ?_
    refine lv_topi (fun x7 e8 => ?_)
    have e8 : x7 = nI (am - zRs (zPa f am i0 e0) i0 i0) := e8.trans (by rw [zRs_0 (Nat.le_refl _), Nat.sub_zero])
    subst e8
    refine lv_istore hx hb dLI_shareOut_44 hl (Nat.le_of_ble_eq_true rfl) rfl (fun ls hl => ?_)
    have hl : lv_has ls 12 [(8, .int (nI (am - zRs (zPa f am i0 e0) i0 i0))), (7, .int (nI (zRs f i0 e0))), (6, .int (nI 0)), (5, .int (nI (zRs f i0 e0))), (0, .ref a), (1, .int (nI am)), (2, .ref a), (3, .int (nI i0)), (4, .int (nI e0))] := hl
    refine lv_iload_n hx hb dLI_shareOut_46 rfl (lv_at hl 7 rfl) ?_
    refine lv_istore hx hb dLI_shareOut_47 hl (Nat.le_of_ble_eq_true rfl) rfl (fun ls hl => ?_)
    have hl : lv_has ls 12 [(9, .int (nI i0)), (8, .int (nI (am - zRs (zPa f am i0 e0) i0 i0))), (7, .int (nI (zRs f i0 e0))), (6, .int (nI 0)), (5, .int (nI (zRs f i0 e0))), (0, .ref a), (1, .int (nI am)), (2, .ref a), (3, .int (nI i0)), (4, .int (nI e0))] := hl
    rw [← zSh1_0 (f := f) (pt := zPa f am i0 e0) (i0 := i0)] at hP hD
    refine zl_upW (σ := Unit) e0 (fun i x9 ls H locs => lv_has ls 12 [(9, .int (nI i)), (8, .int (nI (am - zRs (zPa f am i0 e0) i0 i))), (7, .int (nI (zRs f i0 e0))), (6, .int (nI 0)), (5, .int (nI (zRs f i0 e0))), (4, .int (nI e0)), (3, .int (nI i0)), (2, .ref a), (1, .int (nI am)), (0, .ref a)] ∧ (i0 ≤ i) ∧ va_P (dC, dI) vwCl ([zob a 4 [.ref qa], zar qa ka 12 (fun j => nI (zSh1 f (zPa f am i0 e0) i0 i j))] ++ T) H ∧ va_D A ([zob a 4 [.ref qa], zar qa ka 12 (fun j => nI (zSh1 f (zPa f am i0 e0) i0 i j))] ++ T) ∧ va_S A s.heap H locs) ?_ ?_ i0 (hi0) () ls s.heap [] ⟨lv_sub hl [0, 1, 2, 3, 4, 9, 8, 7, 6, 5] rfl, Nat.le_refl _, hP, hD, hS⟩
    · intro x9 ls H locs hI
      obtain ⟨hl, hxI, hP, hD, hS⟩ := hI
      have hl : lv_has ls 12 [(9, .int (nI e0)), (8, .int (nI (am - zRs (zPa f am i0 e0) i0 e0))), (7, .int (nI (zRs f i0 e0))), (6, .int (nI 0)), (5, .int (nI (zRs f i0 e0))), (4, .int (nI e0)), (3, .int (nI i0)), (2, .ref a), (1, .int (nI am)), (0, .ref a)] := hl
      have hP : va_P (dC, dI) vwCl ([zob a 4 [.ref qa], zar qa ka 12 (fun j => nI (zSh1 f (zPa f am i0 e0) i0 e0 j))] ++ T) H := hP
      have hD : va_D A ([zob a 4 [.ref qa], zar qa ka 12 (fun j => nI (zSh1 f (zPa f am i0 e0) i0 e0 j))] ++ T) := hD
      refine lv_iload hx hb dLI_shareOut_49 (lv_at hl 0 rfl) ?_
      refine lv_iload hx hb dLI_shareOut_51 (lv_at hl 5 rfl) ?_
      have t9 := nI_toInt (n := e0) (by omega)
      have t10 := nI_toInt (n := e0) (by omega)
      refine lv_icmp_ge (tgt := 108) hx hb dLI_shareOut_53 rfl (fun _ => ?_) (fun h => by have h := z_nle h; omega)
      refine lv_iload_n hx hb dLI_shareOut_108 rfl (lv_at hl 6 rfl) ?_
      refine lv_istore hx hb dLI_shareOut_109 hl (Nat.le_of_ble_eq_true rfl) rfl (fun ls hl => ?_)
      have hl : lv_has ls 12 [(9, .int (nI i0)), (8, .int (nI (am - zRs (zPa f am i0 e0) i0 e0))), (7, .int (nI (zRs f i0 e0))), (6, .int (nI 0)), (5, .int (nI (zRs f i0 e0))), (4, .int (nI e0)), (3, .int (nI i0)), (2, .ref a), (1, .int (nI am)), (0, .ref a)] := hl
      rw [← zIn_0 (g := zSh1 f (zPa f am i0 e0) i0 e0) (i0 := i0)] at hP hD
      refine zl_upW (σ := (Nat)) e0 (fun i lf ls H locs => lv_has ls 12 [(9, .int (nI i)), (8, .int (nI lf)), (7, .int (nI (zRs f i0 e0))), (6, .int (nI 0)), (5, .int (nI (zRs f i0 e0))), (4, .int (nI e0)), (3, .int (nI i0)), (2, .ref a), (1, .int (nI am)), (0, .ref a)] ∧ (i0 ≤ i ∧ lf + (i - i0) = zLo f am i0 e0) ∧ va_P (dC, dI) vwCl ([zob a 4 [.ref qa], zar qa ka 12 (fun j => nI (zIn (zSh1 f (zPa f am i0 e0) i0 e0) i0 i j))] ++ T) H ∧ va_D A ([zob a 4 [.ref qa], zar qa ka 12 (fun j => nI (zIn (zSh1 f (zPa f am i0 e0) i0 e0) i0 i j))] ++ T) ∧ va_S A s.heap H locs) ?_ ?_ i0 (hi0) (am - zRs (zPa f am i0 e0) i0 e0) ls H locs ⟨lv_sub hl [0, 1, 2, 3, 4, 5, 6, 7, 8, 9] rfl, ⟨Nat.le_refl _, by unfold zLo; omega⟩, hP, hD, hS⟩
      · intro x9 ls H locs hI
        obtain ⟨lf, rfl⟩ : ∃ z, z = x9 := ⟨_, rfl⟩
        obtain ⟨hl, hxJ, hP, hD, hS⟩ := hI
        have hl : lv_has ls 12 [(9, .int (nI e0)), (8, .int (nI lf)), (7, .int (nI (zRs f i0 e0))), (6, .int (nI 0)), (5, .int (nI (zRs f i0 e0))), (4, .int (nI e0)), (3, .int (nI i0)), (2, .ref a), (1, .int (nI am)), (0, .ref a)] := hl
        have hP : va_P (dC, dI) vwCl ([zob a 4 [.ref qa], zar qa ka 12 (fun j => nI (zIn (zSh1 f (zPa f am i0 e0) i0 e0) i0 e0 j))] ++ T) H := hP
        have hD : va_D A ([zob a 4 [.ref qa], zar qa ka 12 (fun j => nI (zIn (zSh1 f (zPa f am i0 e0) i0 e0) i0 e0 j))] ++ T) := hD
        refine lv_iload hx hb dLI_shareOut_111 (lv_at hl 0 rfl) ?_
        refine lv_iload hx hb dLI_shareOut_113 (lv_at hl 5 rfl) ?_
        have t11 := nI_toInt (n := e0) (by omega)
        have t12 := nI_toInt (n := e0) (by omega)
        refine lv_icmp_ge (tgt := 143) hx hb dLI_shareOut_115 rfl (fun _ => ?_) (fun h => by have h := z_nle h; omega)
        subst hQ
        exact zw_vret (D := (dC, dI)) (cl := vwCl) (A := A) (zIn (zSh1 f (zPa f am i0 e0) i0 e0) i0 e0) hx hb hr hlocks (zShr_X (by omega)) (zt_sub hP [0, 1] rfl) (hK.sub [] rfl) (zt_subD hD [0, 1] (by decide) rfl) hS dLI_shareOut_143
      · intro i hi ih
        intro x9 ls H locs hI
        obtain ⟨lf, rfl⟩ : ∃ z, z = x9 := ⟨_, rfl⟩
        obtain ⟨hl, hxJ, hP, hD, hS⟩ := hI
        have hl : lv_has ls 12 [(9, .int (nI i)), (8, .int (nI lf)), (7, .int (nI (zRs f i0 e0))), (6, .int (nI 0)), (5, .int (nI (zRs f i0 e0))), (4, .int (nI e0)), (3, .int (nI i0)), (2, .ref a), (1, .int (nI am)), (0, .ref a)] := hl
        have hP : va_P (dC, dI) vwCl ([zob a 4 [.ref qa], zar qa ka 12 (fun j => nI (zIn (zSh1 f (zPa f am i0 e0) i0 e0) i0 i j))] ++ T) H := hP
        have hD : va_D A ([zob a 4 [.ref qa], zar qa ka 12 (fun j => nI (zIn (zSh1 f (zPa f am i0 e0) i0 e0) i0 i j))] ++ T) := hD
        refine lv_iload hx hb dLI_shareOut_111 (lv_at hl 0 rfl) ?_
        refine lv_iload hx hb dLI_shareOut_113 (lv_at hl 5 rfl) ?_
        have t13 := nI_toInt (n := i) (by omega)
        have t14 := nI_toInt (n := e0) (by omega)
        refine lv_icmp_ge (tgt := 143) hx hb dLI_shareOut_115 rfl (fun h => by have h := z_le h; omega) (fun _ => ?_)
        refine lv_iload hx hb dLI_shareOut_118 (lv_at hl 1 rfl) ?_
        have t15 := nI_toInt (n := lf) (by omega)
        have t16 : (0 : Int32).toInt = 0 := by decide
        refine lv_if_le (tgt := 143) hx hb dLI_shareOut_120 rfl (fun h_l => ?_) (fun h_l => ?_)
        · have h_l := z_le h_l
          subst hQ
          exact zw_vret (D := (dC, dI)) (cl := vwCl) (A := A) (zIn (zSh1 f (zPa f am i0 e0) i0 e0) i0 i) hx hb hr hlocks (zShr_S (by omega) (by omega)) (zt_sub hP [0, 1] rfl) (hK.sub [] rfl) (zt_subD hD [0, 1] (by decide) rfl) hS dLI_shareOut_143
        · have h_l := z_nle h_l
          refine lv_aload_n hx hb dLI_shareOut_123 rfl (lv_at hl 9 rfl) ?_
          refine va_get (D := (dC, dI)) (ci := 4) (v := .ref qa) (C := RLI) (T := TLI) (N := 1) hx hb hz in_LI hown hK hP 0 rfl rfl 0 (by decide) (hz _ wd_116) (fun _ h9 => h9) rfl dLI_shareOut_124 ?_
          refine lv_iload hx hb dLI_shareOut_127 (lv_at hl 0 rfl) ?_
          refine lv_dup2_11 hx hb dLI_shareOut_129 rfl rfl ?_
          refine va_iald hx hb hK hP 1 0 rfl rfl (vp_in_nI (by omega) (by omega)) dLI_shareOut_130 ?_
          refine lv_topi (fun x18 e19 => ?_)
          have e19 : x18 = nI (zSh1 f (zPa f am i0 e0) i0 e0 i) := e19.trans (by show nI (zIn (zSh1 f (zPa f am i0 e0) i0 e0) i0 i (nI i).toNatClampNeg) = _; rw [nI_clamp (by omega), zIn_at])
          subst e19
          refine lv_iconst (v := nI 1) hx hb dLI_shareOut_131 (by decide) ?_
          refine lv_iadd hx hb dLI_shareOut_132 ?_
          refine lv_topi (fun x20 e21 => ?_)
          have e21 : x20 = nI ((zSh1 f (zPa f am i0 e0) i0 e0 i) + 1) := e21.trans (nI_add _ _)
          subst e21
          refine va_iast hx hb hK hP hD hS 1 0 rfl rfl (vp_in_nI (by omega) (by omega)) dLI_shareOut_133 (fun H locs hP hD hS => ?_)
          have e_u := z_upd (f := zIn (zSh1 f (zPa f am i0 e0) i0 e0) i0 i) (k := i) (v := (zSh1 f (zPa f am i0 e0) i0 e0 i) + 1) (by omega)
          have hP : va_P (dC, dI) vwCl ([zob a 4 [.ref qa], zar qa ka 12 (fun j => nI (va_up (zIn (zSh1 f (zPa f am i0 e0) i0 e0) i0 i) i ((zSh1 f (zPa f am i0 e0) i0 e0 i) + 1) j))] ++ T) H := by rw [← e_u]; exact hP
          have hD : va_D A ([zob a 4 [.ref qa], zar qa ka 12 (fun j => nI (va_up (zIn (zSh1 f (zPa f am i0 e0) i0 e0) i0 i) i ((zSh1 f (zPa f am i0 e0) i0 e0 i) + 1) j))] ++ T) := by rw [← e_u]; exact hD
          refine lv_iinc (k := 1) (v := nI (lf - 1)) hx hb dLI_shareOut_134 hl rfl (by rw [show Int32.ofInt (-1) = (-1 : Int32) from by decide]; exact sb_m1 (by omega)) (Nat.le_of_ble_eq_true rfl) rfl (fun ls hl => ?_)
          have hl : lv_has ls 12 [(8, .int (nI (lf - 1))), (9, .int (nI i)), (7, .int (nI (zRs f i0 e0))), (6, .int (nI 0)), (5, .int (nI (zRs f i0 e0))), (4, .int (nI e0)), (3, .int (nI i0)), (2, .ref a), (1, .int (nI am)), (0, .ref a)] := hl
          refine lv_iinc (k := 1) (v := nI (i + 1)) hx hb dLI_shareOut_137 hl rfl (by rw [show Int32.ofInt 1 = nI 1 from by decide]; exact nI_add _ _) (Nat.le_of_ble_eq_true rfl) rfl (fun ls hl => ?_)
          have hl : lv_has ls 12 [(9, .int (nI (i + 1))), (8, .int (nI (lf - 1))), (7, .int (nI (zRs f i0 e0))), (6, .int (nI 0)), (5, .int (nI (zRs f i0 e0))), (4, .int (nI e0)), (3, .int (nI i0)), (2, .ref a), (1, .int (nI am)), (0, .ref a)] := hl
          refine lv_goto (tgt := 111) hx hb dLI_shareOut_140 rfl ?_
          rw [zIn_s (by omega)] at hP hD
          exact ih (lf - 1) ls H locs ⟨lv_sub hl [0, 1, 2, 3, 4, 5, 6, 7, 8, 9] rfl, ⟨by omega, by omega⟩, hP, hD, hS⟩
    · intro i hi ih
      intro x9 ls H locs hI
      obtain ⟨hl, hxI, hP, hD, hS⟩ := hI
      have hl : lv_has ls 12 [(9, .int (nI i)), (8, .int (nI (am - zRs (zPa f am i0 e0) i0 i))), (7, .int (nI (zRs f i0 e0))), (6, .int (nI 0)), (5, .int (nI (zRs f i0 e0))), (4, .int (nI e0)), (3, .int (nI i0)), (2, .ref a), (1, .int (nI am)), (0, .ref a)] := hl
      have hP : va_P (dC, dI) vwCl ([zob a 4 [.ref qa], zar qa ka 12 (fun j => nI (zSh1 f (zPa f am i0 e0) i0 i j))] ++ T) H := hP
      have hD : va_D A ([zob a 4 [.ref qa], zar qa ka 12 (fun j => nI (zSh1 f (zPa f am i0 e0) i0 i j))] ++ T) := hD
      refine lv_iload hx hb dLI_shareOut_49 (lv_at hl 0 rfl) ?_
      refine lv_iload hx hb dLI_shareOut_51 (lv_at hl 5 rfl) ?_
      have t22 := nI_toInt (n := i) (by omega)
      have t23 := nI_toInt (n := e0) (by omega)
      refine lv_icmp_ge (tgt := 108) hx hb dLI_shareOut_53 rfl (fun h => by have h := z_le h; omega) (fun _ => ?_)
      refine lv_iload hx hb dLI_shareOut_56 (lv_at hl 3 rfl) ?_
      refine lv_if_eq (tgt := 65) hx hb dLI_shareOut_58 rfl (fun _ => ?_) (fun h => absurd (by decide) h)
      refine lv_aload_n hx hb dLI_shareOut_65 rfl (lv_at hl 7 rfl) ?_
      refine va_get (D := (dC, dI)) (ci := 4) (v := .ref qa) (C := RLI) (T := TLI) (N := 1) hx hb hz in_LI hown hK hP 0 rfl rfl 0 (by decide) (hz _ wd_116) (fun _ h9 => h9) rfl dLI_shareOut_66 ?_
      refine lv_iload hx hb dLI_shareOut_69 (lv_at hl 0 rfl) ?_
      refine va_iald hx hb hK hP 1 0 rfl rfl (vp_in_nI (by omega) (by omega)) dLI_shareOut_71 ?_
      refine lv_topi (fun x24 e25 => ?_)
      have e25 : x24 = nI (f i) := e25.trans (by show nI (zSh1 f (zPa f am i0 e0) i0 i (nI i).toNatClampNeg) = _; rw [nI_clamp (by omega), zSh1_at])
      subst e25
      refine lv_istore hx hb dLI_shareOut_72 hl (Nat.le_of_ble_eq_true rfl) rfl (fun ls hl => ?_)
      have hl : lv_has ls 12 [(10, .int (nI (f i))), (9, .int (nI i)), (8, .int (nI (am - zRs (zPa f am i0 e0) i0 i))), (7, .int (nI (zRs f i0 e0))), (6, .int (nI 0)), (5, .int (nI (zRs f i0 e0))), (4, .int (nI e0)), (3, .int (nI i0)), (2, .ref a), (1, .int (nI am)), (0, .ref a)] := hl
      refine lv_iload_n hx hb dLI_shareOut_74 rfl (lv_at hl 9 rfl) ?_
      refine lv_iload hx hb dLI_shareOut_75 (lv_at hl 0 rfl) ?_
      refine lv_imul hx hb dLI_shareOut_77 ?_
      refine lv_topi (fun x26 e27 => ?_)
      have e27 : x26 = nI (am * (f i)) := e27.trans (pk_mul _ _)
      subst e27
      refine lv_iload hx hb dLI_shareOut_78 (lv_at hl 3 rfl) ?_
      have hm9 : am * f i ≤ 20000 * 20000 := Nat.mul_le_mul ham (hf i)
      refine lv_idiv hx hb dLI_shareOut_80 (nI_ne0 (by omega) (by omega)) ?_
      refine lv_topi (fun x28 e29 => ?_)
      have e29 : x28 = nI (zPa f am i0 e0 i) := e29.trans (by rw [pk_div (by omega) (by omega) (by omega), zPa_w h_z])
      subst e29
      refine lv_istore hx hb dLI_shareOut_81 hl (Nat.le_of_ble_eq_true rfl) rfl (fun ls hl => ?_)
      have hl : lv_has ls 12 [(11, .int (nI (zPa f am i0 e0 i))), (10, .int (nI (f i))), (9, .int (nI i)), (8, .int (nI (am - zRs (zPa f am i0 e0) i0 i))), (7, .int (nI (zRs f i0 e0))), (6, .int (nI 0)), (5, .int (nI (zRs f i0 e0))), (4, .int (nI e0)), (3, .int (nI i0)), (2, .ref a), (1, .int (nI am)), (0, .ref a)] := hl
      refine lv_aload_n hx hb dLI_shareOut_83 rfl (lv_at hl 11 rfl) ?_
      refine va_get (D := (dC, dI)) (ci := 4) (v := .ref qa) (C := RLI) (T := TLI) (N := 1) hx hb hz in_LI hown hK hP 0 rfl rfl 0 (by decide) (hz _ wd_116) (fun _ h9 => h9) rfl dLI_shareOut_84 ?_
      refine lv_iload hx hb dLI_shareOut_87 (lv_at hl 2 rfl) ?_
      refine lv_dup2_11 hx hb dLI_shareOut_89 rfl rfl ?_
      refine va_iald hx hb hK hP 1 0 rfl rfl (vp_in_nI (by omega) (by omega)) dLI_shareOut_90 ?_
      refine lv_topi (fun x30 e31 => ?_)
      have e31 : x30 = nI (f i) := e31.trans (by show nI (zSh1 f (zPa f am i0 e0) i0 i (nI i).toNatClampNeg) = _; rw [nI_clamp (by omega), zSh1_at])
      subst e31
      refine lv_iload hx hb dLI_shareOut_91 (lv_at hl 0 rfl) ?_
      refine lv_iadd hx hb dLI_shareOut_93 ?_
      refine lv_topi (fun x32 e33 => ?_)
      have e33 : x32 = nI ((f i) + (zPa f am i0 e0 i)) := e33.trans (nI_add _ _)
      subst e33
      refine va_iast hx hb hK hP hD hS 1 0 rfl rfl (vp_in_nI (by omega) (by omega)) dLI_shareOut_94 (fun H locs hP hD hS => ?_)
      have e_u := z_upd (f := zSh1 f (zPa f am i0 e0) i0 i) (k := i) (v := (f i) + (zPa f am i0 e0 i)) (by omega)
      have hP : va_P (dC, dI) vwCl ([zob a 4 [.ref qa], zar qa ka 12 (fun j => nI (va_up (zSh1 f (zPa f am i0 e0) i0 i) i ((f i) + (zPa f am i0 e0 i)) j))] ++ T) H := by rw [← e_u]; exact hP
      have hD : va_D A ([zob a 4 [.ref qa], zar qa ka 12 (fun j => nI (va_up (zSh1 f (zPa f am i0 e0) i0 i) i ((f i) + (zPa f am i0 e0 i)) j))] ++ T) := by rw [← e_u]; exact hD
      refine lv_iload hx hb dLI_shareOut_95 (lv_at hl 3 rfl) ?_
      refine lv_iload hx hb dLI_shareOut_97 (lv_at hl 0 rfl) ?_
      refine lv_isub hx hb dLI_shareOut_99 ?_
      refine lv_topi (fun x34 e35 => ?_)
      have e35 : x34 = nI (am - zRs (zPa f am i0 e0) i0 (i + 1)) := e35.trans ((pk_sub (by have h9 := zPa_sum (w := f) (am := am) hlt (i + 1) (by omega); rw [zRs_s (by omega)] at h9; omega)).trans (congrArg nI (by rw [zRs_s (by omega)]; omega)))
      subst e35
      refine lv_istore hx hb dLI_shareOut_100 hl (Nat.le_of_ble_eq_true rfl) rfl (fun ls hl => ?_)
      have hl : lv_has ls 12 [(8, .int (nI (am - zRs (zPa f am i0 e0) i0 (i + 1)))), (11, .int (nI (zPa f am i0 e0 i))), (10, .int (nI (f i))), (9, .int (nI i)), (7, .int (nI (zRs f i0 e0))), (6, .int (nI 0)), (5, .int (nI (zRs f i0 e0))), (4, .int (nI e0)), (3, .int (nI i0)), (2, .ref a), (1, .int (nI am)), (0, .ref a)] := hl
      refine lv_iinc (k := 3) (v := nI (i + 1)) hx hb dLI_shareOut_102 hl rfl (by rw [show Int32.ofInt 1 = nI 1 from by decide]; exact nI_add _ _) (Nat.le_of_ble_eq_true rfl) rfl (fun ls hl => ?_)
      have hl : lv_has ls 12 [(9, .int (nI (i + 1))), (8, .int (nI (am - zRs (zPa f am i0 e0) i0 (i + 1)))), (11, .int (nI (zPa f am i0 e0 i))), (10, .int (nI (f i))), (7, .int (nI (zRs f i0 e0))), (6, .int (nI 0)), (5, .int (nI (zRs f i0 e0))), (4, .int (nI e0)), (3, .int (nI i0)), (2, .ref a), (1, .int (nI am)), (0, .ref a)] := hl
      refine lv_goto (tgt := 49) hx hb dLI_shareOut_105 rfl ?_
      rw [zSh1_s (by omega)] at hP hD
      exact ih () ls H locs ⟨lv_sub hl [0, 1, 4, 5, 6, 7, 8, 9, 10, 11] rfl, by omega, hP, hD, hS⟩
  · have h_a := z_eq h_a
    have h_z : zRs f i0 e0 = 0 := by omega
    refine lv_iconst (v := nI 1) hx hb dLI_shareOut_14 (by decide) ?_
    refine lv_goto (tgt := 19) hx hb dLI_shareOut_15 rfl ?_
    refine lv_istore hx hb dLI_shareOut_19 hl (Nat.le_of_ble_eq_true rfl) rfl (fun ls hl => ?_)
    have hl : lv_has ls 12 [(6, .int (nI 1)), (5, .int (nI (zRs f i0 e0))), (0, .ref a), (1, .int (nI am)), (2, .ref a), (3, .int (nI i0)), (4, .int (nI e0))] := hl
    refine lv_iload hx hb dLI_shareOut_21 (lv_at hl 0 rfl) ?_
    refine lv_if_eq (tgt := 33) hx hb dLI_shareOut_23 rfl (fun h => absurd h (by decide)) (fun _ => ?_)
    refine lv_iload hx hb dLI_shareOut_26 (lv_at hl 6 rfl) ?_
    refine lv_iload_n hx hb dLI_shareOut_28 rfl (lv_at hl 5 rfl) ?_
    refine lv_isub hx hb dLI_shareOut_29 ?_
    refine lv_topi (fun x36 e37 => ?_)
    have e37 : x36 = nI (e0 - i0) := e37.trans (pk_sub (by omega))
    subst e37
    refine lv_goto (tgt := 35) hx hb dLI_shareOut_30 rfl ?_
    refine lv_istore hx hb dLI_shareOut_35 hl (Nat.le_of_ble_eq_true rfl) rfl (fun ls hl => ?_)
    have hl : lv_has ls 12 [(7, .int (nI (e0 - i0))), (6, .int (nI 1)), (5, .int (nI (zRs f i0 e0))), (0, .ref a), (1, .int (nI am)), (2, .ref a), (3, .int (nI i0)), (4, .int (nI e0))] := hl
    refine lv_iload hx hb dLI_shareOut_37 (lv_at hl 0 rfl) ?_
    have t38 := nI_toInt (n := e0 - i0) (by omega)
    have t39 : (0 : Int32).toInt = 0 := by decide
    refine lv_if_gt (tgt := 43) hx hb dLI_shareOut_39 rfl (fun _ => ?_) (fun h => by have h := z_nlt h; omega)
    refine lv_iload_n hx hb dLI_shareOut_43 rfl (lv_at hl 4 rfl) ?_
    refine lv_topi (fun x40 e41 => ?_)
    have e41 : x40 = nI (am - zRs (zPa f am i0 e0) i0 i0) := e41.trans (by rw [zRs_0 (Nat.le_refl _), Nat.sub_zero])
    subst e41
    refine lv_istore hx hb dLI_shareOut_44 hl (Nat.le_of_ble_eq_true rfl) rfl (fun ls hl => ?_)
    have hl : lv_has ls 12 [(8, .int (nI (am - zRs (zPa f am i0 e0) i0 i0))), (7, .int (nI (e0 - i0))), (6, .int (nI 1)), (5, .int (nI (zRs f i0 e0))), (0, .ref a), (1, .int (nI am)), (2, .ref a), (3, .int (nI i0)), (4, .int (nI e0))] := hl
    refine lv_iload_n hx hb dLI_shareOut_46 rfl (lv_at hl 7 rfl) ?_
    refine lv_istore hx hb dLI_shareOut_47 hl (Nat.le_of_ble_eq_true rfl) rfl (fun ls hl => ?_)
    have hl : lv_has ls 12 [(9, .int (nI i0)), (8, .int (nI (am - zRs (zPa f am i0 e0) i0 i0))), (7, .int (nI (e0 - i0))), (6, .int (nI 1)), (5, .int (nI (zRs f i0 e0))), (0, .ref a), (1, .int (nI am)), (2, .ref a), (3, .int (nI i0)), (4, .int (nI e0))] := hl
    rw [← zSh1_0 (f := f) (pt := zPa f am i0 e0) (i0 := i0)] at hP hD
    refine zl_upW (σ := Unit) e0 (fun i x9 ls H locs => lv_has ls 12 [(9, .int (nI i)), (8, .int (nI (am - zRs (zPa f am i0 e0) i0 i))), (7, .int (nI (e0 - i0))), (6, .int (nI 1)), (5, .int (nI (zRs f i0 e0))), (4, .int (nI e0)), (3, .int (nI i0)), (2, .ref a), (1, .int (nI am)), (0, .ref a)] ∧ (i0 ≤ i) ∧ va_P (dC, dI) vwCl ([zob a 4 [.ref qa], zar qa ka 12 (fun j => nI (zSh1 f (zPa f am i0 e0) i0 i j))] ++ T) H ∧ va_D A ([zob a 4 [.ref qa], zar qa ka 12 (fun j => nI (zSh1 f (zPa f am i0 e0) i0 i j))] ++ T) ∧ va_S A s.heap H locs) ?_ ?_ i0 (hi0) () ls s.heap [] ⟨lv_sub hl [0, 1, 2, 3, 4, 9, 8, 7, 6, 5] rfl, Nat.le_refl _, hP, hD, hS⟩
    · intro x9 ls H locs hI
      obtain ⟨hl, hxI, hP, hD, hS⟩ := hI
      have hl : lv_has ls 12 [(9, .int (nI e0)), (8, .int (nI (am - zRs (zPa f am i0 e0) i0 e0))), (7, .int (nI (e0 - i0))), (6, .int (nI 1)), (5, .int (nI (zRs f i0 e0))), (4, .int (nI e0)), (3, .int (nI i0)), (2, .ref a), (1, .int (nI am)), (0, .ref a)] := hl
      have hP : va_P (dC, dI) vwCl ([zob a 4 [.ref qa], zar qa ka 12 (fun j => nI (zSh1 f (zPa f am i0 e0) i0 e0 j))] ++ T) H := hP
      have hD : va_D A ([zob a 4 [.ref qa], zar qa ka 12 (fun j => nI (zSh1 f (zPa f am i0 e0) i0 e0 j))] ++ T) := hD
      refine lv_iload hx hb dLI_shareOut_49 (lv_at hl 0 rfl) ?_
      refine lv_iload hx hb dLI_shareOut_51 (lv_at hl 5 rfl) ?_
      have t42 := nI_toInt (n := e0) (by omega)
      have t43 := nI_toInt (n := e0) (by omega)
      refine lv_icmp_ge (tgt := 108) hx hb dLI_shareOut_53 rfl (fun _ => ?_) (fun h => by have h := z_nle h; omega)
      refine lv_iload_n hx hb dLI_shareOut_108 rfl (lv_at hl 6 rfl) ?_
      refine lv_istore hx hb dLI_shareOut_109 hl (Nat.le_of_ble_eq_true rfl) rfl (fun ls hl => ?_)
      have hl : lv_has ls 12 [(9, .int (nI i0)), (8, .int (nI (am - zRs (zPa f am i0 e0) i0 e0))), (7, .int (nI (e0 - i0))), (6, .int (nI 1)), (5, .int (nI (zRs f i0 e0))), (4, .int (nI e0)), (3, .int (nI i0)), (2, .ref a), (1, .int (nI am)), (0, .ref a)] := hl
      rw [← zIn_0 (g := zSh1 f (zPa f am i0 e0) i0 e0) (i0 := i0)] at hP hD
      refine zl_upW (σ := (Nat)) e0 (fun i lf ls H locs => lv_has ls 12 [(9, .int (nI i)), (8, .int (nI lf)), (7, .int (nI (e0 - i0))), (6, .int (nI 1)), (5, .int (nI (zRs f i0 e0))), (4, .int (nI e0)), (3, .int (nI i0)), (2, .ref a), (1, .int (nI am)), (0, .ref a)] ∧ (i0 ≤ i ∧ lf + (i - i0) = zLo f am i0 e0) ∧ va_P (dC, dI) vwCl ([zob a 4 [.ref qa], zar qa ka 12 (fun j => nI (zIn (zSh1 f (zPa f am i0 e0) i0 e0) i0 i j))] ++ T) H ∧ va_D A ([zob a 4 [.ref qa], zar qa ka 12 (fun j => nI (zIn (zSh1 f (zPa f am i0 e0) i0 e0) i0 i j))] ++ T) ∧ va_S A s.heap H locs) ?_ ?_ i0 (hi0) (am - zRs (zPa f am i0 e0) i0 e0) ls H locs ⟨lv_sub hl [0, 1, 2, 3, 4, 5, 6, 7, 8, 9] rfl, ⟨Nat.le_refl _, by unfold zLo; omega⟩, hP, hD, hS⟩
      · intro x9 ls H locs hI
        obtain ⟨lf, rfl⟩ : ∃ z, z = x9 := ⟨_, rfl⟩
        obtain ⟨hl, hxJ, hP, hD, hS⟩ := hI
        have hl : lv_has ls 12 [(9, .int (nI e0)), (8, .int (nI lf)), (7, .int (nI (e0 - i0))), (6, .int (nI 1)), (5, .int (nI (zRs f i0 e0))), (4, .int (nI e0)), (3, .int (nI i0)), (2, .ref a), (1, .int (nI am)), (0, .ref a)] := hl
        have hP : va_P (dC, dI) vwCl ([zob a 4 [.ref qa], zar qa ka 12 (fun j => nI (zIn (zSh1 f (zPa f am i0 e0) i0 e0) i0 e0 j))] ++ T) H := hP
        have hD : va_D A ([zob a 4 [.ref qa], zar qa ka 12 (fun j => nI (zIn (zSh1 f (zPa f am i0 e0) i0 e0) i0 e0 j))] ++ T) := hD
        refine lv_iload hx hb dLI_shareOut_111 (lv_at hl 0 rfl) ?_
        refine lv_iload hx hb dLI_shareOut_113 (lv_at hl 5 rfl) ?_
        have t44 := nI_toInt (n := e0) (by omega)
        have t45 := nI_toInt (n := e0) (by omega)
        refine lv_icmp_ge (tgt := 143) hx hb dLI_shareOut_115 rfl (fun _ => ?_) (fun h => by have h := z_nle h; omega)
        subst hQ
        exact zw_vret (D := (dC, dI)) (cl := vwCl) (A := A) (zIn (zSh1 f (zPa f am i0 e0) i0 e0) i0 e0) hx hb hr hlocks (zShr_X (by omega)) (zt_sub hP [0, 1] rfl) (hK.sub [] rfl) (zt_subD hD [0, 1] (by decide) rfl) hS dLI_shareOut_143
      · intro i hi ih
        intro x9 ls H locs hI
        obtain ⟨lf, rfl⟩ : ∃ z, z = x9 := ⟨_, rfl⟩
        obtain ⟨hl, hxJ, hP, hD, hS⟩ := hI
        have hl : lv_has ls 12 [(9, .int (nI i)), (8, .int (nI lf)), (7, .int (nI (e0 - i0))), (6, .int (nI 1)), (5, .int (nI (zRs f i0 e0))), (4, .int (nI e0)), (3, .int (nI i0)), (2, .ref a), (1, .int (nI am)), (0, .ref a)] := hl
        have hP : va_P (dC, dI) vwCl ([zob a 4 [.ref qa], zar qa ka 12 (fun j => nI (zIn (zSh1 f (zPa f am i0 e0) i0 e0) i0 i j))] ++ T) H := hP
        have hD : va_D A ([zob a 4 [.ref qa], zar qa ka 12 (fun j => nI (zIn (zSh1 f (zPa f am i0 e0) i0 e0) i0 i j))] ++ T) := hD
        refine lv_iload hx hb dLI_shareOut_111 (lv_at hl 0 rfl) ?_
        refine lv_iload hx hb dLI_shareOut_113 (lv_at hl 5 rfl) ?_
        have t46 := nI_toInt (n := i) (by omega)
        have t47 := nI_toInt (n := e0) (by omega)
        refine lv_icmp_ge (tgt := 143) hx hb dLI_shareOut_115 rfl (fun h => by have h := z_le h; omega) (fun _ => ?_)
        refine lv_iload hx hb dLI_shareOut_118 (lv_at hl 1 rfl) ?_
        have t48 := nI_toInt (n := lf) (by omega)
        have t49 : (0 : Int32).toInt = 0 := by decide
        refine lv_if_le (tgt := 143) hx hb dLI_shareOut_120 rfl (fun h_l => ?_) (fun h_l => ?_)
        · have h_l := z_le h_l
          subst hQ
          exact zw_vret (D := (dC, dI)) (cl := vwCl) (A := A) (zIn (zSh1 f (zPa f am i0 e0) i0 e0) i0 i) hx hb hr hlocks (zShr_S (by omega) (by omega)) (zt_sub hP [0, 1] rfl) (hK.sub [] rfl) (zt_subD hD [0, 1] (by decide) rfl) hS dLI_shareOut_143
        · have h_l := z_nle h_l
          refine lv_aload_n hx hb dLI_shareOut_123 rfl (lv_at hl 9 rfl) ?_
          refine va_get (D := (dC, dI)) (ci := 4) (v := .ref qa) (C := RLI) (T := TLI) (N := 1) hx hb hz in_LI hown hK hP 0 rfl rfl 0 (by decide) (hz _ wd_116) (fun _ h9 => h9) rfl dLI_shareOut_124 ?_
          refine lv_iload hx hb dLI_shareOut_127 (lv_at hl 0 rfl) ?_
          refine lv_dup2_11 hx hb dLI_shareOut_129 rfl rfl ?_
          refine va_iald hx hb hK hP 1 0 rfl rfl (vp_in_nI (by omega) (by omega)) dLI_shareOut_130 ?_
          refine lv_topi (fun x51 e52 => ?_)
          have e52 : x51 = nI (zSh1 f (zPa f am i0 e0) i0 e0 i) := e52.trans (by show nI (zIn (zSh1 f (zPa f am i0 e0) i0 e0) i0 i (nI i).toNatClampNeg) = _; rw [nI_clamp (by omega), zIn_at])
          subst e52
          refine lv_iconst (v := nI 1) hx hb dLI_shareOut_131 (by decide) ?_
          refine lv_iadd hx hb dLI_shareOut_132 ?_
          refine lv_topi (fun x53 e54 => ?_)
          have e54 : x53 = nI ((zSh1 f (zPa f am i0 e0) i0 e0 i) + 1) := e54.trans (nI_add _ _)
          subst e54
          refine va_iast hx hb hK hP hD hS 1 0 rfl rfl (vp_in_nI (by omega) (by omega)) dLI_shareOut_133 (fun H locs hP hD hS => ?_)
          have e_u := z_upd (f := zIn (zSh1 f (zPa f am i0 e0) i0 e0) i0 i) (k := i) (v := (zSh1 f (zPa f am i0 e0) i0 e0 i) + 1) (by omega)
          have hP : va_P (dC, dI) vwCl ([zob a 4 [.ref qa], zar qa ka 12 (fun j => nI (va_up (zIn (zSh1 f (zPa f am i0 e0) i0 e0) i0 i) i ((zSh1 f (zPa f am i0 e0) i0 e0 i) + 1) j))] ++ T) H := by rw [← e_u]; exact hP
          have hD : va_D A ([zob a 4 [.ref qa], zar qa ka 12 (fun j => nI (va_up (zIn (zSh1 f (zPa f am i0 e0) i0 e0) i0 i) i ((zSh1 f (zPa f am i0 e0) i0 e0 i) + 1) j))] ++ T) := by rw [← e_u]; exact hD
          refine lv_iinc (k := 1) (v := nI (lf - 1)) hx hb dLI_shareOut_134 hl rfl (by rw [show Int32.ofInt (-1) = (-1 : Int32) from by decide]; exact sb_m1 (by omega)) (Nat.le_of_ble_eq_true rfl) rfl (fun ls hl => ?_)
          have hl : lv_has ls 12 [(8, .int (nI (lf - 1))), (9, .int (nI i)), (7, .int (nI (e0 - i0))), (6, .int (nI 1)), (5, .int (nI (zRs f i0 e0))), (4, .int (nI e0)), (3, .int (nI i0)), (2, .ref a), (1, .int (nI am)), (0, .ref a)] := hl
          refine lv_iinc (k := 1) (v := nI (i + 1)) hx hb dLI_shareOut_137 hl rfl (by rw [show Int32.ofInt 1 = nI 1 from by decide]; exact nI_add _ _) (Nat.le_of_ble_eq_true rfl) rfl (fun ls hl => ?_)
          have hl : lv_has ls 12 [(9, .int (nI (i + 1))), (8, .int (nI (lf - 1))), (7, .int (nI (e0 - i0))), (6, .int (nI 1)), (5, .int (nI (zRs f i0 e0))), (4, .int (nI e0)), (3, .int (nI i0)), (2, .ref a), (1, .int (nI am)), (0, .ref a)] := hl
          refine lv_goto (tgt := 111) hx hb dLI_shareOut_140 rfl ?_
          rw [zIn_s (by omega)] at hP hD
          exact ih (lf - 1) ls H locs ⟨lv_sub hl [0, 1, 2, 3, 4, 5, 6, 7, 8, 9] rfl, ⟨by omega, by omega⟩, hP, hD, hS⟩
    · intro i hi ih
      intro x9 ls H locs hI
      obtain ⟨hl, hxI, hP, hD, hS⟩ := hI
      have hl : lv_has ls 12 [(9, .int (nI i)), (8, .int (nI (am - zRs (zPa f am i0 e0) i0 i))), (7, .int (nI (e0 - i0))), (6, .int (nI 1)), (5, .int (nI (zRs f i0 e0))), (4, .int (nI e0)), (3, .int (nI i0)), (2, .ref a), (1, .int (nI am)), (0, .ref a)] := hl
      have hP : va_P (dC, dI) vwCl ([zob a 4 [.ref qa], zar qa ka 12 (fun j => nI (zSh1 f (zPa f am i0 e0) i0 i j))] ++ T) H := hP
      have hD : va_D A ([zob a 4 [.ref qa], zar qa ka 12 (fun j => nI (zSh1 f (zPa f am i0 e0) i0 i j))] ++ T) := hD
      refine lv_iload hx hb dLI_shareOut_49 (lv_at hl 0 rfl) ?_
      refine lv_iload hx hb dLI_shareOut_51 (lv_at hl 5 rfl) ?_
      have t55 := nI_toInt (n := i) (by omega)
      have t56 := nI_toInt (n := e0) (by omega)
      refine lv_icmp_ge (tgt := 108) hx hb dLI_shareOut_53 rfl (fun h => by have h := z_le h; omega) (fun _ => ?_)
      refine lv_iload hx hb dLI_shareOut_56 (lv_at hl 3 rfl) ?_
      refine lv_if_eq (tgt := 65) hx hb dLI_shareOut_58 rfl (fun h => absurd h (by decide)) (fun _ => ?_)
      refine lv_iconst (v := nI 1) hx hb dLI_shareOut_61 (by decide) ?_
      refine lv_goto (tgt := 72) hx hb dLI_shareOut_62 rfl ?_
      refine lv_istore hx hb dLI_shareOut_72 hl (Nat.le_of_ble_eq_true rfl) rfl (fun ls hl => ?_)
      have hl : lv_has ls 12 [(10, .int (nI 1)), (9, .int (nI i)), (8, .int (nI (am - zRs (zPa f am i0 e0) i0 i))), (7, .int (nI (e0 - i0))), (6, .int (nI 1)), (5, .int (nI (zRs f i0 e0))), (4, .int (nI e0)), (3, .int (nI i0)), (2, .ref a), (1, .int (nI am)), (0, .ref a)] := hl
      refine lv_iload_n hx hb dLI_shareOut_74 rfl (lv_at hl 9 rfl) ?_
      refine lv_iload hx hb dLI_shareOut_75 (lv_at hl 0 rfl) ?_
      refine lv_imul hx hb dLI_shareOut_77 ?_
      refine lv_topi (fun x57 e58 => ?_)
      have e58 : x57 = nI (am * 1) := e58.trans (pk_mul _ _)
      subst e58
      refine lv_iload hx hb dLI_shareOut_78 (lv_at hl 3 rfl) ?_
      refine lv_idiv hx hb dLI_shareOut_80 (nI_ne0 (by omega) (by omega)) ?_
      refine lv_topi (fun x59 e60 => ?_)
      have e60 : x59 = nI (zPa f am i0 e0 i) := e60.trans (by rw [pk_div (by omega) (by omega) (by omega), Nat.mul_one, zPa_z h_z])
      subst e60
      refine lv_istore hx hb dLI_shareOut_81 hl (Nat.le_of_ble_eq_true rfl) rfl (fun ls hl => ?_)
      have hl : lv_has ls 12 [(11, .int (nI (zPa f am i0 e0 i))), (10, .int (nI 1)), (9, .int (nI i)), (8, .int (nI (am - zRs (zPa f am i0 e0) i0 i))), (7, .int (nI (e0 - i0))), (6, .int (nI 1)), (5, .int (nI (zRs f i0 e0))), (4, .int (nI e0)), (3, .int (nI i0)), (2, .ref a), (1, .int (nI am)), (0, .ref a)] := hl
      refine lv_aload_n hx hb dLI_shareOut_83 rfl (lv_at hl 11 rfl) ?_
      refine va_get (D := (dC, dI)) (ci := 4) (v := .ref qa) (C := RLI) (T := TLI) (N := 1) hx hb hz in_LI hown hK hP 0 rfl rfl 0 (by decide) (hz _ wd_116) (fun _ h9 => h9) rfl dLI_shareOut_84 ?_
      refine lv_iload hx hb dLI_shareOut_87 (lv_at hl 2 rfl) ?_
      refine lv_dup2_11 hx hb dLI_shareOut_89 rfl rfl ?_
      refine va_iald hx hb hK hP 1 0 rfl rfl (vp_in_nI (by omega) (by omega)) dLI_shareOut_90 ?_
      refine lv_topi (fun x61 e62 => ?_)
      have e62 : x61 = nI (f i) := e62.trans (by show nI (zSh1 f (zPa f am i0 e0) i0 i (nI i).toNatClampNeg) = _; rw [nI_clamp (by omega), zSh1_at])
      subst e62
      refine lv_iload hx hb dLI_shareOut_91 (lv_at hl 0 rfl) ?_
      refine lv_iadd hx hb dLI_shareOut_93 ?_
      refine lv_topi (fun x63 e64 => ?_)
      have e64 : x63 = nI ((f i) + (zPa f am i0 e0 i)) := e64.trans (nI_add _ _)
      subst e64
      refine va_iast hx hb hK hP hD hS 1 0 rfl rfl (vp_in_nI (by omega) (by omega)) dLI_shareOut_94 (fun H locs hP hD hS => ?_)
      have e_u := z_upd (f := zSh1 f (zPa f am i0 e0) i0 i) (k := i) (v := (f i) + (zPa f am i0 e0 i)) (by omega)
      have hP : va_P (dC, dI) vwCl ([zob a 4 [.ref qa], zar qa ka 12 (fun j => nI (va_up (zSh1 f (zPa f am i0 e0) i0 i) i ((f i) + (zPa f am i0 e0 i)) j))] ++ T) H := by rw [← e_u]; exact hP
      have hD : va_D A ([zob a 4 [.ref qa], zar qa ka 12 (fun j => nI (va_up (zSh1 f (zPa f am i0 e0) i0 i) i ((f i) + (zPa f am i0 e0 i)) j))] ++ T) := by rw [← e_u]; exact hD
      refine lv_iload hx hb dLI_shareOut_95 (lv_at hl 3 rfl) ?_
      refine lv_iload hx hb dLI_shareOut_97 (lv_at hl 0 rfl) ?_
      refine lv_isub hx hb dLI_shareOut_99 ?_
      refine lv_topi (fun x65 e66 => ?_)
      have e66 : x65 = nI (am - zRs (zPa f am i0 e0) i0 (i + 1)) := e66.trans ((pk_sub (by have h9 := zPa_sum (w := f) (am := am) hlt (i + 1) (by omega); rw [zRs_s (by omega)] at h9; omega)).trans (congrArg nI (by rw [zRs_s (by omega)]; omega)))
      subst e66
      refine lv_istore hx hb dLI_shareOut_100 hl (Nat.le_of_ble_eq_true rfl) rfl (fun ls hl => ?_)
      have hl : lv_has ls 12 [(8, .int (nI (am - zRs (zPa f am i0 e0) i0 (i + 1)))), (11, .int (nI (zPa f am i0 e0 i))), (10, .int (nI 1)), (9, .int (nI i)), (7, .int (nI (e0 - i0))), (6, .int (nI 1)), (5, .int (nI (zRs f i0 e0))), (4, .int (nI e0)), (3, .int (nI i0)), (2, .ref a), (1, .int (nI am)), (0, .ref a)] := hl
      refine lv_iinc (k := 3) (v := nI (i + 1)) hx hb dLI_shareOut_102 hl rfl (by rw [show Int32.ofInt 1 = nI 1 from by decide]; exact nI_add _ _) (Nat.le_of_ble_eq_true rfl) rfl (fun ls hl => ?_)
      have hl : lv_has ls 12 [(9, .int (nI (i + 1))), (8, .int (nI (am - zRs (zPa f am i0 e0) i0 (i + 1)))), (11, .int (nI (zPa f am i0 e0 i))), (10, .int (nI 1)), (7, .int (nI (e0 - i0))), (6, .int (nI 1)), (5, .int (nI (zRs f i0 e0))), (4, .int (nI e0)), (3, .int (nI i0)), (2, .ref a), (1, .int (nI am)), (0, .ref a)] := hl
      refine lv_goto (tgt := 49) hx hb dLI_shareOut_105 rfl ?_
      rw [zSh1_s (by omega)] at hP hD
      exact ih () ls H locs ⟨lv_sub hl [0, 1, 4, 5, 6, 7, 8, 9, 10, 11] rfl, by omega, hP, hD, hS⟩
