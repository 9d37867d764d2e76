set_option maxHeartbeats 4000000 in
set_option maxRecDepth 100000 in
theorem x_LI_sum (l : Launch) (dC : Nat → ClassId) (dI : Nat → Nat → Nat) (a : Nat) (qa : Nat) (ka : ClassId) (g : Nat → Int32) (f : Nat → Nat) (i0 : Nat) (e0 : Nat) (hi0 : i0 ≤ e0) (he0 : e0 ≤ 12) (hv : ∀ j, i0 ≤ j → j < e0 → g j = nI (f j)) : zp_M l yLI_sum wLI_sum ({ frames := 0, cells := 0, slots := 0, locals := 0 }) [.ref a, .int (nI i0), .int (nI e0)] (dC, dI) vwCl [zob a 4 [.ref qa], zar qa ka 12 g] [(ka, .int)] (fun _ => True) (fun r => r = nI (zRs f i0 e0)) := by
  refine zp_head (cc := cLI_sum) (maxL := 5) (ret := (some .int)) (by decide +kernel) rfl (Nat.le_of_ble_eq_true rfl) ?_
  intro p e s m below meth c ls F hP hK hX hl
  obtain ⟨hx, hb, hml, hr, hlocks, hown, hts⟩ := F
  have hown : s.vm.findClass "SpannedCells$Lines" = some m.cls := hown
  have hz : ∀ w9 ∈ zT, w9.before [.ref a, .int (nI i0), .int (nI e0)].toArray s = true := fun w9 h => hts w9 (List.mem_cons_of_mem _ h)
  have hl : lv_has ls 5 [(0, .ref a), (1, .int (nI i0)), (2, .int (nI e0))] := hl
  refine z_q (fun Q hQ => ?_)
  refine lv_iconst (v := nI 0) hx hb dLI_sum_0 (by decide) ?_
  refine lv_topi (fun x1 e2 => ?_)
  have e2 : x1 = nI (zRs f i0 i0) := e2.trans (by rw [zRs_0 (Nat.le_refl _)])
  subst e2
  refine lv_istore_n hx hb dLI_sum_1 rfl hl (Nat.le_of_ble_eq_true rfl) rfl (fun ls hl => ?_)
  have hl : lv_has ls 5 [(3, .int (nI (zRs f i0 i0))), (0, .ref a), (1, .int (nI i0)), (2, .int (nI e0))] := hl
  refine lv_iload_n hx hb dLI_sum_2 rfl (lv_at hl 2 rfl) ?_
  refine lv_istore hx hb dLI_sum_3 hl (Nat.le_of_ble_eq_true rfl) rfl (fun ls hl => ?_)
  have hl : lv_has ls 5 [(4, .int (nI i0)), (3, .int (nI (zRs f i0 i0))), (0, .ref a), (1, .int (nI i0)), (2, .int (nI e0))] := hl
  refine zl_up (σ := Unit) e0 (fun i x9 ls => lv_has ls 5 [(4, .int (nI i)), (3, .int (nI (zRs f i0 i))), (2, .int (nI e0)), (1, .int (nI i0)), (0, .ref a)] ∧ (i0 ≤ i)) ?_ ?_ i0 (hi0) () ls ⟨lv_sub hl [0, 1, 4, 3, 2] rfl, Nat.le_refl _⟩
  · intro x9 ls hI
    obtain ⟨hl, hxI⟩ := hI
    have hl : lv_has ls 5 [(4, .int (nI e0)), (3, .int (nI (zRs f i0 e0))), (2, .int (nI e0)), (1, .int (nI i0)), (0, .ref a)] := hl
    refine lv_iload hx hb dLI_sum_5 (lv_at hl 0 rfl) ?_
    refine lv_iload_n hx hb dLI_sum_7 rfl (lv_at hl 2 rfl) ?_
    have t3 := nI_toInt (n := e0) (by omega)
    have t4 := nI_toInt (n := e0) (by omega)
    refine lv_icmp_ge (tgt := 27) hx hb dLI_sum_8 rfl (fun _ => ?_) (fun h => by have h := z_nle h; omega)
    refine lv_iload_n hx hb dLI_sum_27 rfl (lv_at hl 1 rfl) ?_
    subst hQ
    exact zp_iret hx hb hr hlocks (rfl) dLI_sum_28
  · intro i hi ih
    intro x9 ls hI
    obtain ⟨hl, hxI⟩ := hI
    have hl : lv_has ls 5 [(4, .int (nI i)), (3, .int (nI (zRs f i0 i))), (2, .int (nI e0)), (1, .int (nI i0)), (0, .ref a)] := hl
    refine lv_iload hx hb dLI_sum_5 (lv_at hl 0 rfl) ?_
    refine lv_iload_n hx hb dLI_sum_7 rfl (lv_at hl 2 rfl) ?_
    have t5 := nI_toInt (n := i) (by omega)
    have t6 := nI_toInt (n := e0) (by omega)
    refine lv_icmp_ge (tgt := 27) hx hb dLI_sum_8 rfl (fun h => by have h := z_le h; omega) (fun _ => ?_)
    refine lv_iload_n hx hb dLI_sum_11 rfl (lv_at hl 1 rfl) ?_
    refine lv_aload_n hx hb dLI_sum_12 rfl (lv_at hl 4 rfl) ?_
    refine va_get (D := (dC, dI)) (ci := 4) (v := .ref qa) (C := RLI) (T := TLI) (N := 1) hx hb hz in_LI hown hK hP 0 rfl rfl 0 (by decide) (hz _ wd_116) (fun _ h9 => h9) rfl dLI_sum_13 ?_
    refine lv_iload hx hb dLI_sum_16 (lv_at hl 0 rfl) ?_
    refine va_iald hx hb hK hP 1 0 rfl rfl (vp_in_nI (by omega) (by omega)) dLI_sum_18 ?_
    refine lv_topi (fun x7 e8 => ?_)
    have e8 : x7 = nI (f i) := e8.trans (by rw [nI_clamp (by omega), hv i (by omega) (by omega)])
    subst e8
    refine lv_iadd hx hb dLI_sum_19 ?_
    refine lv_topi (fun x9 e10 => ?_)
    have e10 : x9 = nI (zRs f i0 (i + 1)) := e10.trans (by rw [zRs_s (by omega)]; exact nI_add _ _)
    subst e10
    refine lv_istore_n hx hb dLI_sum_20 rfl hl (Nat.le_of_ble_eq_true rfl) rfl (fun ls hl => ?_)
    have hl : lv_has ls 5 [(3, .int (nI (zRs f i0 (i + 1)))), (4, .int (nI i)), (2, .int (nI e0)), (1, .int (nI i0)), (0, .ref a)] := hl
    refine lv_iinc (k := 1) (v := nI (i + 1)) hx hb dLI_sum_21 hl rfl (by rw [show Int32.ofInt 1 = nI 1 from by decide]; exact nI_add _ _) (Nat.le_of_ble_eq_true rfl) rfl (fun ls hl => ?_)
    have hl : lv_has ls 5 [(4, .int (nI (i + 1))), (3, .int (nI (zRs f i0 (i + 1)))), (2, .int (nI e0)), (1, .int (nI i0)), (0, .ref a)] := hl
    refine lv_goto (tgt := 5) hx hb dLI_sum_24 rfl ?_
    exact ih () ls ⟨lv_sub hl [0, 1, 2, 3, 4] rfl, by omega⟩

set_option maxHeartbeats 4000000 in
set_option maxRecDepth 100000 in
theorem x_LI_sizeOf (l : Launch) (dC : Nat → ClassId) (dI : Nat → Nat → Nat) (a : Nat) (qa : Nat) (ka : ClassId) (f : Nat → Nat) (i0 : Nat) (hi0 : i0 < 12) : zp_M l yLI_sizeOf wLI_sizeOf ({ frames := 0, cells := 0, slots := 0, locals := 0 }) [.ref a, .int (nI i0)] (dC, dI) vwCl [zob a 4 [.ref qa], zar qa ka 12 (fun j => nI (f j))] [(ka, .int)] (fun _ => True) (fun r => r = nI (f i0)) := by
  refine zp_head (cc := cLI_sizeOf) (maxL := 2) (ret := (some .int)) (by decide +kernel) rfl (Nat.le_of_ble_eq_true rfl) ?_
  intro p e s m below meth c ls F hP hK hX hl
  obtain ⟨hx, hb, hml, hr, hlocks, hown, hts⟩ := F
  have hown : s.vm.findClass "SpannedCells$Lines" = some m.cls := hown
  have hz : ∀ w9 ∈ zT, w9.before [.ref a, .int (nI i0)].toArray s = true := fun w9 h => hts w9 (List.mem_cons_of_mem _ h)
  have hl : lv_has ls 2 [(0, .ref a), (1, .int (nI i0))] := hl
  refine z_q (fun Q hQ => ?_)
  refine lv_aload_n hx hb dLI_sizeOf_0 rfl (lv_at hl 0 rfl) ?_
  refine va_get (D := (dC, dI)) (ci := 4) (v := .ref qa) (C := RLI) (T := TLI) (N := 1) hx hb hz in_LI hown hK hP 0 rfl rfl 0 (by decide) (hz _ wd_116) (fun _ h9 => h9) rfl dLI_sizeOf_1 ?_
  refine lv_iload_n hx hb dLI_sizeOf_4 rfl (lv_at hl 1 rfl) ?_
  refine va_iald hx hb hK hP 1 0 rfl rfl (vp_in_nI (by omega) (by omega)) dLI_sizeOf_5 ?_
  refine lv_topi (fun x1 e2 => ?_)
  have e2 : x1 = nI (f i0) := e2.trans (by show nI (f (nI i0).toNatClampNeg) = _; rw [nI_clamp (by omega)])
  subst e2
  subst hQ
  exact zp_iret hx hb hr hlocks (rfl) dLI_sizeOf_6

set_option maxHeartbeats 4000000 in
set_option maxRecDepth 100000 in
theorem x_LI_reach (l : Launch) (dC : Nat → ClassId) (dI : Nat → Nat → Nat) (a : Nat) (qa : Nat) (ka : ClassId) (f : Nat → Nat) (i0 : Nat) (e0 : Nat) (gp : Nat) (hi0 : i0 ≤ e0) (he0 : e0 ≤ 12) (hlt : i0 < e0) : zp_M l yLI_reach wLI_reach ({ frames := 1, cells := 0, slots := 0, locals := 24 }) [.ref a, .int (nI i0), .int (nI e0), .int (nI gp)] (dC, dI) vwCl [zob a 4 [.ref qa], zar qa ka 12 (fun j => nI (f j))] [(ka, .int)] (fun _ => True) (fun r => r = nI (zRc f gp i0 e0)) := by
  refine zp_head (cc := cLI_reach) (maxL := 4) (ret := (some .int)) (by decide +kernel) rfl (Nat.le_of_ble_eq_true rfl) ?_
  intro p e s m below meth c ls F hP hK hX hl
  obtain ⟨hx, hb, hml, hr, hlocks, hown, hts⟩ := F
  have hown : s.vm.findClass "SpannedCells$Lines" = some m.cls := hown
  have hz : ∀ w9 ∈ zT, w9.before [.ref a, .int (nI i0), .int (nI e0), .int (nI gp)].toArray s = true := fun w9 h => hts w9 (List.mem_cons_of_mem _ h)
  have hl : lv_has ls 4 [(0, .ref a), (1, .int (nI i0)), (2, .int (nI e0)), (3, .int (nI gp))] := hl
  refine z_q (fun Q hQ => ?_)
  refine lv_aload_n hx hb dLI_reach_0 rfl (lv_at hl 0 rfl) ?_
  refine lv_iload_n hx hb dLI_reach_1 rfl (lv_at hl 1 rfl) ?_
  refine lv_iload_n hx hb dLI_reach_2 rfl (lv_at hl 2 rfl) ?_
  refine vp_callSi (W.runV (As := [.int (nI i0), .int (nI e0)]) (rest := []) ⟨hx, hb, hml, hown, hz⟩ (x_LI_sum l dC dI a qa ka (fun j => nI (f j)) f i0 e0 (by omega) (by omega) (fun _ _ _ => rfl)) (cwV 2 hz (z_gV wd_479 wd_480 wd_481 wd_35 wd_482) rfl rfl rfl (by decide +kernel) ⟨Nat.le_of_ble_eq_true rfl, Nat.le_of_ble_eq_true rfl⟩) (zr_preV hK (hP.sub [0, 1] rfl) (va_recv (q0 := 0) hK hP (q := (RLI, TLI, 1)) rfl rfl) [0] rfl z_true (fun _ _ _ => trivial)) rfl rfl hl.1 rfl (lv_room (Nat.le_of_ble_eq_true rfl)) dLI_reach_3 ⟨Nat.le_of_ble_eq_true rfl, Nat.le_of_ble_eq_true rfl⟩) (fun r1 h_r1 => ?_)
  have h_r1 : r1 = nI (zRs f i0 e0) := h_r1
  subst h_r1
  refine lv_iload_n hx hb dLI_reach_6 rfl (lv_at hl 3 rfl) ?_
  refine lv_iload_n hx hb dLI_reach_7 rfl (lv_at hl 2 rfl) ?_
  refine lv_iload_n hx hb dLI_reach_8 rfl (lv_at hl 1 rfl) ?_
  refine lv_isub hx hb dLI_reach_9 ?_
  refine lv_topi (fun x2 e3 => ?_)
  have e3 : x2 = nI (e0 - i0) := e3.trans (pk_sub (by omega))
  subst e3
  refine lv_iconst (v := nI 1) hx hb dLI_reach_10 (by decide) ?_
  refine lv_isub hx hb dLI_reach_11 ?_
  refine lv_topi (fun x4 e5 => ?_)
  have e5 : x4 = nI ((e0 - i0) - 1) := e5.trans (pk_sub (by omega))
  subst e5
  refine lv_imul hx hb dLI_reach_12 ?_
  refine lv_topi (fun x6 e7 => ?_)
  have e7 : x6 = nI (gp * ((e0 - i0) - 1)) := e7.trans (pk_mul _ _)
  subst e7
  refine lv_iadd hx hb dLI_reach_13 ?_
  refine lv_topi (fun x8 e9 => ?_)
  have e9 : x8 = nI ((zRs f i0 e0) + (gp * ((e0 - i0) - 1))) := e9.trans (nI_add _ _)
  subst e9
  subst hQ
  exact zp_iret hx hb hr hlocks (rfl) dLI_reach_14

set_option maxHeartbeats 4000000 in
set_option maxRecDepth 100000 in
theorem x_LI_startOf (l : Launch) (dC : Nat → ClassId) (dI : Nat → Nat → Nat) (a : Nat) (qa : Nat) (ka : ClassId) (f : Nat → Nat) (e0 : Nat) (gp : Nat) (he0 : e0 ≤ 12) : zp_M l yLI_startOf wLI_startOf ({ frames := 1, cells := 0, slots := 0, locals := 24 }) [.ref a, .int (nI e0), .int (nI gp)] (dC, dI) vwCl [zob a 4 [.ref qa], zar qa ka 12 (fun j => nI (f j))] [(ka, .int)] (fun _ => True) (fun r => r = nI (zRs f 0 e0 + gp * (e0 + 1))) := by
  refine zp_head (cc := cLI_startOf) (maxL := 3) (ret := (some .int)) (by decide +kernel) rfl (Nat.le_of_ble_eq_true rfl) ?_
  intro p e s m below meth c ls F hP hK hX hl
  obtain ⟨hx, hb, hml, hr, hlocks, hown, hts⟩ := F
  have hown : s.vm.findClass "SpannedCells$Lines" = some m.cls := hown
  have hz : ∀ w9 ∈ zT, w9.before [.ref a, .int (nI e0), .int (nI gp)].toArray s = true := fun w9 h => hts w9 (List.mem_cons_of_mem _ h)
  have hl : lv_has ls 3 [(0, .ref a), (1, .int (nI e0)), (2, .int (nI gp))] := hl
  refine z_q (fun Q hQ => ?_)
  refine lv_aload_n hx hb dLI_startOf_0 rfl (lv_at hl 0 rfl) ?_
  refine lv_iconst (v := nI 0) hx hb dLI_startOf_1 (by decide) ?_
  refine lv_iload_n hx hb dLI_startOf_2 rfl (lv_at hl 1 rfl) ?_
  refine vp_callSi (W.runV (As := [.int (nI 0), .int (nI e0)]) (rest := []) ⟨hx, hb, hml, hown, hz⟩ (x_LI_sum l dC dI a qa ka (fun j => nI (f j)) f 0 e0 (by omega) (by omega) (fun _ _ _ => rfl)) (cwV 2 hz (z_gV wd_479 wd_480 wd_481 wd_35 wd_482) rfl rfl rfl (by decide +kernel) ⟨Nat.le_of_ble_eq_true rfl, Nat.le_of_ble_eq_true rfl⟩) (zr_preV hK (hP.sub [0, 1] rfl) (va_recv (q0 := 0) hK hP (q := (RLI, TLI, 1)) rfl rfl) [0] rfl z_true (fun _ _ _ => trivial)) rfl rfl hl.1 rfl (lv_room (Nat.le_of_ble_eq_true rfl)) dLI_startOf_3 ⟨Nat.le_of_ble_eq_true rfl, Nat.le_of_ble_eq_true rfl⟩) (fun r1 h_r1 => ?_)
  have h_r1 : r1 = nI (zRs f 0 e0) := h_r1
  subst h_r1
  refine lv_iload_n hx hb dLI_startOf_6 rfl (lv_at hl 2 rfl) ?_
  refine lv_iload_n hx hb dLI_startOf_7 rfl (lv_at hl 1 rfl) ?_
  refine lv_iconst (v := nI 1) hx hb dLI_startOf_8 (by decide) ?_
  refine lv_iadd hx hb dLI_startOf_9 ?_
  refine lv_topi (fun x2 e3 => ?_)
  have e3 : x2 = nI (e0 + 1) := e3.trans (nI_add _ _)
  subst e3
  refine lv_imul hx hb dLI_startOf_10 ?_
  refine lv_topi (fun x4 e5 => ?_)
  have e5 : x4 = nI (gp * (e0 + 1)) := e5.trans (pk_mul _ _)
  subst e5
  refine lv_iadd hx hb dLI_startOf_11 ?_
  refine lv_topi (fun x6 e7 => ?_)
  have e7 : x6 = nI ((zRs f 0 e0) + (gp * (e0 + 1))) := e7.trans (nI_add _ _)
  subst e7
  subst hQ
  exact zp_iret hx hb hr hlocks (rfl) dLI_startOf_12
