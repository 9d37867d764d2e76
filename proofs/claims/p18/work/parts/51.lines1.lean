set_option maxHeartbeats 4000000 in
set_option maxRecDepth 100000 in
theorem f_LI_sum (l : Launch) (dC : Nat → ClassId) (dI : Nat → Nat → Nat) (a : Nat) (qa : Nat) (ka : ClassId) (f : Nat → Int32) (i0 : Nat) (e0 : Nat) (hi0 : i0 ≤ e0) (he0 : e0 ≤ 12) : zp_M l yLI_sum wLI_sum ({ frames := 0, cells := 0, slots := 0, locals := 0 }) [.ref a, .int (nI i0), .int (nI e0)] (dC, dI) vwCl [zob a 4 [.ref qa], zar qa ka 12 f] [(ka, .int)] (fun _ => True) (fun r => True) := by
  refine zp_head (cc := cLI_sum) (maxL := 5) (ret := (some .int)) (by decide +kernel) rfl (Nat.le_of_ble_eq_true rfl) ?_
  intro p e s m below meth c ls F hP hK hX hl
  obtain ⟨hx, hb, hml, hr, hlocks, hown, hts⟩ := F
  have hown : s.vm.findClass "SpannedCells$Lines" = some m.cls := hown
  have hz : ∀ w9 ∈ zT, w9.before [.ref a, .int (nI i0), .int (nI e0)].toArray s = true := fun w9 h => hts w9 (List.mem_cons_of_mem _ h)
  have hl : lv_has ls 5 [(0, .ref a), (1, .int (nI i0)), (2, .int (nI e0))] := hl
  refine z_q (fun Q hQ => ?_)
  refine lv_iconst (v := nI 0) hx hb dLI_sum_0 (by decide) ?_
  refine lv_istore_n hx hb dLI_sum_1 rfl hl (Nat.le_of_ble_eq_true rfl) rfl (fun ls hl => ?_)
  have hl : lv_has ls 5 [(3, .int (nI 0)), (0, .ref a), (1, .int (nI i0)), (2, .int (nI e0))] := hl
  refine lv_iload_n hx hb dLI_sum_2 rfl (lv_at hl 2 rfl) ?_
  refine lv_istore hx hb dLI_sum_3 hl (Nat.le_of_ble_eq_true rfl) rfl (fun ls hl => ?_)
  have hl : lv_has ls 5 [(4, .int (nI i0)), (3, .int (nI 0)), (0, .ref a), (1, .int (nI i0)), (2, .int (nI e0))] := hl
  refine zl_up (σ := (Int32)) e0 (fun i sm ls => lv_has ls 5 [(4, .int (nI i)), (3, .int sm), (2, .int (nI e0)), (1, .int (nI i0)), (0, .ref a)]) ?_ ?_ i0 (hi0) (nI 0) ls (lv_sub hl [0, 1, 4, 3, 2] rfl)
  · intro x9 ls hI
    obtain ⟨sm, rfl⟩ : ∃ z, z = x9 := ⟨_, rfl⟩
    have hl := hI
    have hl : lv_has ls 5 [(4, .int (nI e0)), (3, .int sm), (2, .int (nI e0)), (1, .int (nI i0)), (0, .ref a)] := hl
    refine lv_iload hx hb dLI_sum_5 (lv_at hl 0 rfl) ?_
    refine lv_iload_n hx hb dLI_sum_7 rfl (lv_at hl 2 rfl) ?_
    have t1 := nI_toInt (n := e0) (by omega)
    have t2 := nI_toInt (n := e0) (by omega)
    refine lv_icmp_ge (tgt := 27) hx hb dLI_sum_8 rfl (fun _ => ?_) (fun h => by have h := z_nle h; omega)
    refine lv_iload_n hx hb dLI_sum_27 rfl (lv_at hl 1 rfl) ?_
    subst hQ
    exact zp_iret hx hb hr hlocks (trivial) dLI_sum_28
  · intro i hi ih
    intro x9 ls hI
    obtain ⟨sm, rfl⟩ : ∃ z, z = x9 := ⟨_, rfl⟩
    have hl := hI
    have hl : lv_has ls 5 [(4, .int (nI i)), (3, .int sm), (2, .int (nI e0)), (1, .int (nI i0)), (0, .ref a)] := hl
    refine lv_iload hx hb dLI_sum_5 (lv_at hl 0 rfl) ?_
    refine lv_iload_n hx hb dLI_sum_7 rfl (lv_at hl 2 rfl) ?_
    have t3 := nI_toInt (n := i) (by omega)
    have t4 := nI_toInt (n := e0) (by omega)
    refine lv_icmp_ge (tgt := 27) hx hb dLI_sum_8 rfl (fun h => by have h := z_le h; omega) (fun _ => ?_)
    refine lv_iload_n hx hb dLI_sum_11 rfl (lv_at hl 1 rfl) ?_
    refine lv_aload_n hx hb dLI_sum_12 rfl (lv_at hl 4 rfl) ?_
    refine va_get (D := (dC, dI)) (ci := 4) (v := .ref qa) (C := RLI) (T := TLI) (N := 1) hx hb hz in_LI hown hK hP 0 rfl rfl 0 (by decide) (hz _ wd_116) (fun _ h9 => h9) rfl dLI_sum_13 ?_
    refine lv_iload hx hb dLI_sum_16 (lv_at hl 0 rfl) ?_
    refine va_iald hx hb hK hP 1 0 rfl rfl (vp_in_nI (by omega) (by omega)) dLI_sum_18 ?_
    refine lv_topi (fun y5 _ => ?_)
    refine lv_iadd hx hb dLI_sum_19 ?_
    refine lv_topi (fun y6 _ => ?_)
    refine lv_istore_n hx hb dLI_sum_20 rfl hl (Nat.le_of_ble_eq_true rfl) rfl (fun ls hl => ?_)
    have hl : lv_has ls 5 [(3, .int y6), (4, .int (nI i)), (2, .int (nI e0)), (1, .int (nI i0)), (0, .ref a)] := hl
    refine lv_iinc (k := 1) (v := nI (i + 1)) hx hb dLI_sum_21 hl rfl (by rw [show Int32.ofInt 1 = nI 1 from by decide]; exact nI_add _ _) (Nat.le_of_ble_eq_true rfl) rfl (fun ls hl => ?_)
    have hl : lv_has ls 5 [(4, .int (nI (i + 1))), (3, .int y6), (2, .int (nI e0)), (1, .int (nI i0)), (0, .ref a)] := hl
    refine lv_goto (tgt := 5) hx hb dLI_sum_24 rfl ?_
    exact ih y6 ls (lv_sub hl [0, 1, 2, 3, 4] rfl)

set_option maxHeartbeats 4000000 in
set_option maxRecDepth 100000 in
theorem f_LI_sizeOf (l : Launch) (dC : Nat → ClassId) (dI : Nat → Nat → Nat) (a : Nat) (qa : Nat) (ka : ClassId) (f : Nat → Int32) (i0 : Nat) (hi0 : i0 < 12) : zp_M l yLI_sizeOf wLI_sizeOf ({ frames := 0, cells := 0, slots := 0, locals := 0 }) [.ref a, .int (nI i0)] (dC, dI) vwCl [zob a 4 [.ref qa], zar qa ka 12 f] [(ka, .int)] (fun _ => True) (fun r => True) := by
  refine zp_head (cc := cLI_sizeOf) (maxL := 2) (ret := (some .int)) (by decide +kernel) rfl (Nat.le_of_ble_eq_true rfl) ?_
  intro p e s m below meth c ls F hP hK hX hl
  obtain ⟨hx, hb, hml, hr, hlocks, hown, hts⟩ := F
  have hown : s.vm.findClass "SpannedCells$Lines" = some m.cls := hown
  have hz : ∀ w9 ∈ zT, w9.before [.ref a, .int (nI i0)].toArray s = true := fun w9 h => hts w9 (List.mem_cons_of_mem _ h)
  have hl : lv_has ls 2 [(0, .ref a), (1, .int (nI i0))] := hl
  refine z_q (fun Q hQ => ?_)
  refine lv_aload_n hx hb dLI_sizeOf_0 rfl (lv_at hl 0 rfl) ?_
  refine va_get (D := (dC, dI)) (ci := 4) (v := .ref qa) (C := RLI) (T := TLI) (N := 1) hx hb hz in_LI hown hK hP 0 rfl rfl 0 (by decide) (hz _ wd_116) (fun _ h9 => h9) rfl dLI_sizeOf_1 ?_
  refine lv_iload_n hx hb dLI_sizeOf_4 rfl (lv_at hl 1 rfl) ?_
  refine va_iald hx hb hK hP 1 0 rfl rfl (vp_in_nI (by omega) (by omega)) dLI_sizeOf_5 ?_
  refine lv_topi (fun y1 _ => ?_)
  subst hQ
  exact zp_iret hx hb hr hlocks (trivial) dLI_sizeOf_6

set_option maxHeartbeats 4000000 in
set_option maxRecDepth 100000 in
theorem f_LI_reach (l : Launch) (dC : Nat → ClassId) (dI : Nat → Nat → Nat) (a : Nat) (qa : Nat) (ka : ClassId) (f : Nat → Int32) (i0 : Nat) (e0 : Nat) (gp : Nat) (hi0 : i0 ≤ e0) (he0 : e0 ≤ 12) : zp_M l yLI_reach wLI_reach ({ frames := 1, cells := 0, slots := 0, locals := 24 }) [.ref a, .int (nI i0), .int (nI e0), .int (nI gp)] (dC, dI) vwCl [zob a 4 [.ref qa], zar qa ka 12 f] [(ka, .int)] (fun _ => True) (fun r => True) := by
  refine zp_head (cc := cLI_reach) (maxL := 4) (ret := (some .int)) (by decide +kernel) rfl (Nat.le_of_ble_eq_true rfl) ?_
  intro p e s m below meth c ls F hP hK hX hl
  obtain ⟨hx, hb, hml, hr, hlocks, hown, hts⟩ := F
  have hown : s.vm.findClass "SpannedCells$Lines" = some m.cls := hown
  have hz : ∀ w9 ∈ zT, w9.before [.ref a, .int (nI i0), .int (nI e0), .int (nI gp)].toArray s = true := fun w9 h => hts w9 (List.mem_cons_of_mem _ h)
  have hl : lv_has ls 4 [(0, .ref a), (1, .int (nI i0)), (2, .int (nI e0)), (3, .int (nI gp))] := hl
  refine z_q (fun Q hQ => ?_)
  refine lv_aload_n hx hb dLI_reach_0 rfl (lv_at hl 0 rfl) ?_
  refine lv_iload_n hx hb dLI_reach_1 rfl (lv_at hl 1 rfl) ?_
  refine lv_iload_n hx hb dLI_reach_2 rfl (lv_at hl 2 rfl) ?_
  refine vp_callSi (W.runV (As := [.int (nI i0), .int (nI e0)]) (rest := []) ⟨hx, hb, hml, hown, hz⟩ (f_LI_sum l dC dI a qa ka f i0 e0 (by omega) (by omega)) (cwV 2 hz (z_gV wd_479 wd_480 wd_481 wd_35 wd_482) rfl rfl rfl (by decide +kernel) ⟨Nat.le_of_ble_eq_true rfl, Nat.le_of_ble_eq_true rfl⟩) (zr_preV hK (hP.sub [0, 1] rfl) (va_recv (q0 := 0) hK hP (q := (RLI, TLI, 1)) rfl rfl) [0] rfl z_true (fun _ _ _ => trivial)) rfl rfl hl.1 rfl (lv_room (Nat.le_of_ble_eq_true rfl)) dLI_reach_3 ⟨Nat.le_of_ble_eq_true rfl, Nat.le_of_ble_eq_true rfl⟩) (fun r1 h_r1 => ?_)
  refine lv_iload_n hx hb dLI_reach_6 rfl (lv_at hl 3 rfl) ?_
  refine lv_iload_n hx hb dLI_reach_7 rfl (lv_at hl 2 rfl) ?_
  refine lv_iload_n hx hb dLI_reach_8 rfl (lv_at hl 1 rfl) ?_
  refine lv_isub hx hb dLI_reach_9 ?_
  refine lv_topi (fun y2 _ => ?_)
  refine lv_iconst (v := nI 1) hx hb dLI_reach_10 (by decide) ?_
  refine lv_isub hx hb dLI_reach_11 ?_
  refine lv_topi (fun y3 _ => ?_)
  refine lv_imul hx hb dLI_reach_12 ?_
  refine lv_topi (fun y4 _ => ?_)
  refine lv_iadd hx hb dLI_reach_13 ?_
  refine lv_topi (fun y5 _ => ?_)
  subst hQ
  exact zp_iret hx hb hr hlocks (trivial) dLI_reach_14

set_option maxHeartbeats 4000000 in
set_option maxRecDepth 100000 in
theorem f_LI_startOf (l : Launch) (dC : Nat → ClassId) (dI : Nat → Nat → Nat) (a : Nat) (qa : Nat) (ka : ClassId) (f : Nat → Int32) (e0 : Nat) (gp : Nat) (he0 : e0 ≤ 12) : zp_M l yLI_startOf wLI_startOf ({ frames := 1, cells := 0, slots := 0, locals := 24 }) [.ref a, .int (nI e0), .int (nI gp)] (dC, dI) vwCl [zob a 4 [.ref qa], zar qa ka 12 f] [(ka, .int)] (fun _ => True) (fun r => True) := by
  refine zp_head (cc := cLI_startOf) (maxL := 3) (ret := (some .int)) (by decide +kernel) rfl (Nat.le_of_ble_eq_true rfl) ?_
  intro p e s m below meth c ls F hP hK hX hl
  obtain ⟨hx, hb, hml, hr, hlocks, hown, hts⟩ := F
  have hown : s.vm.findClass "SpannedCells$Lines" = some m.cls := hown
  have hz : ∀ w9 ∈ zT, w9.before [.ref a, .int (nI e0), .int (nI gp)].toArray s = true := fun w9 h => hts w9 (List.mem_cons_of_mem _ h)
  have hl : lv_has ls 3 [(0, .ref a), (1, .int (nI e0)), (2, .int (nI gp))] := hl
  refine z_q (fun Q hQ => ?_)
  refine lv_aload_n hx hb dLI_startOf_0 rfl (lv_at hl 0 rfl) ?_
  refine lv_iconst (v := nI 0) hx hb dLI_startOf_1 (by decide) ?_
  refine lv_iload_n hx hb dLI_startOf_2 rfl (lv_at hl 1 rfl) ?_
  refine vp_callSi (W.runV (As := [.int (nI 0), .int (nI e0)]) (rest := []) ⟨hx, hb, hml, hown, hz⟩ (f_LI_sum l dC dI a qa ka f 0 e0 (by omega) (by omega)) (cwV 2 hz (z_gV wd_479 wd_480 wd_481 wd_35 wd_482) rfl rfl rfl (by decide +kernel) ⟨Nat.le_of_ble_eq_true rfl, Nat.le_of_ble_eq_true rfl⟩) (zr_preV hK (hP.sub [0, 1] rfl) (va_recv (q0 := 0) hK hP (q := (RLI, TLI, 1)) rfl rfl) [0] rfl z_true (fun _ _ _ => trivial)) rfl rfl hl.1 rfl (lv_room (Nat.le_of_ble_eq_true rfl)) dLI_startOf_3 ⟨Nat.le_of_ble_eq_true rfl, Nat.le_of_ble_eq_true rfl⟩) (fun r1 h_r1 => ?_)
  refine lv_iload_n hx hb dLI_startOf_6 rfl (lv_at hl 2 rfl) ?_
  refine lv_iload_n hx hb dLI_startOf_7 rfl (lv_at hl 1 rfl) ?_
  refine lv_iconst (v := nI 1) hx hb dLI_startOf_8 (by decide) ?_
  refine lv_iadd hx hb dLI_startOf_9 ?_
  refine lv_topi (fun x2 e3 => ?_)
  have e3 : x2 = nI (e0 + 1) := e3.trans (nI_add _ _)
  subst e3
  refine lv_imul hx hb dLI_startOf_10 ?_
  refine lv_topi (fun x4 e5 => ?_)
  have e5 : x4 = nI (gp * (e0 + 1)) := e5.trans (pk_mul _ _)
  subst e5
  refine lv_iadd hx hb dLI_startOf_11 ?_
  refine lv_topi (fun y6 _ => ?_)
  subst hQ
  exact zp_iret hx hb hr hlocks (trivial) dLI_startOf_12

set_option maxHeartbeats 4000000 in
set_option maxRecDepth 100000 in
theorem f_LI_set (l : Launch) (dC : Nat → ClassId) (dI : Nat → Nat → Nat) (T : va_W) (a : Nat) (qa : Nat) (ka : ClassId) (f : Nat → Int32) (i0 : Nat) (x : Int32) (hi0 : i0 < 12) : zw_Mv (S := (Nat → Int32)) l yLI_set wLI_set ({ frames := 0, cells := 0, slots := 0, locals := 0 }) [.ref a, .int (nI i0), .int x] (dC, dI) vwCl ([zob a 4 [.ref qa], zar qa ka 12 f] ++ T) [(ka, .int)] (fun _ _ => True) (fun (f2 : Nat → Int32) => True) (fun (f2 : Nat → Int32) => ([zob a 4 [.ref qa], zar qa ka 12 f2] ++ T)) (fun (f2 : Nat → Int32) => []) 0 0 := by
  refine zw_headv (cc := cLI_set) (maxL := 3) (ret := none) (by decide +kernel) rfl (Nat.le_of_ble_eq_true rfl) ?_
  intro p e s m below meth c ls A F hnm hA hP hK hD hS hX hl
  obtain ⟨hx, hb, hml, hr, hlocks, hown, hts⟩ := F
  have hown : s.vm.findClass "SpannedCells$Lines" = some m.cls := hown
  have hz : ∀ w9 ∈ zT, w9.before [.ref a, .int (nI i0), .int x].toArray s = true := fun w9 h => hts w9 (List.mem_cons_of_mem _ h)
  have hl : lv_has ls 3 [(0, .ref a), (1, .int (nI i0)), (2, .int x)] := hl
  refine z_q (fun Q hQ => ?_)
  refine lv_aload_n hx hb dLI_set_0 rfl (lv_at hl 0 rfl) ?_
  refine va_get (D := (dC, dI)) (ci := 4) (v := .ref qa) (C := RLI) (T := TLI) (N := 1) hx hb hz in_LI hown hK hP 0 rfl rfl 0 (by decide) (hz _ wd_116) (fun _ h9 => h9) rfl dLI_set_1 ?_
  refine lv_iload_n hx hb dLI_set_4 rfl (lv_at hl 1 rfl) ?_
  refine lv_iload_n hx hb dLI_set_5 rfl (lv_at hl 2 rfl) ?_
  refine va_iast hx hb hK hP hD hS 1 0 rfl rfl (vp_in_nI (by omega) (by omega)) dLI_set_6 (fun H locs hP hD hS => ?_)
  have hP : va_P (dC, dI) vwCl ([zob a 4 [.ref qa], zar qa ka 12 (upd f (nI i0).toNatClampNeg x)] ++ T) H := hP
  have hD : va_D A ([zob a 4 [.ref qa], zar qa ka 12 (upd f (nI i0).toNatClampNeg x)] ++ T) := hD
  obtain ⟨w1, e_w⟩ : ∃ f9 : Nat → Int32, f9 = upd f (nI i0).toNatClampNeg x := ⟨_, rfl⟩
  rw [← e_w] at hP hD
  have hP : va_P (dC, dI) vwCl ([zob a 4 [.ref qa], zar qa ka 12 w1] ++ T) H := hP
  have hD : va_D A ([zob a 4 [.ref qa], zar qa ka 12 w1] ++ T) := hD
  subst hQ
  exact zw_vret (D := (dC, dI)) (cl := vwCl) (A := A) w1 hx hb hr hlocks (trivial) (zt_sub hP [0, 1] rfl) (hK.sub [] rfl) (zt_subD hD [0, 1] (by decide) rfl) hS dLI_set_7

set_option maxHeartbeats 4000000 in
set_option maxRecDepth 100000 in
theorem f_AR_fill (l : Launch) (dC : Nat → ClassId) (dI : Nat → Nat → Nat) (T : va_W) (qa : Nat) (ka : ClassId) (f : Nat → Int32) (x : Int32) : zw_Mv (S := (Nat → Int32)) l yAR_fill wAR_fill ({ frames := 0, cells := 0, slots := 0, locals := 0 }) [.ref qa, .int x] (dC, dI) vwCl ([zar qa ka 12 f] ++ T) [(ka, .int)] (fun _ _ => True) (fun (f2 : Nat → Int32) => True) (fun (f2 : Nat → Int32) => ([zar qa ka 12 f2] ++ T)) (fun (f2 : Nat → Int32) => []) 0 0 := by
  refine zw_headv (cc := cAR_fill) (maxL := 4) (ret := none) (by decide +kernel) rfl (Nat.le_of_ble_eq_true rfl) ?_
  intro p e s m below meth c ls A F hnm hA hP hK hD hS hX hl
  obtain ⟨hx, hb, hml, hr, hlocks, hown, hts⟩ := F
  have hown : s.vm.findClass "java/util/Arrays" = some m.cls := hown
  have hz : ∀ w9 ∈ zT, w9.before [.ref qa, .int x].toArray s = true := fun w9 h => hts w9 (List.mem_cons_of_mem _ h)
  have hl : lv_has ls 4 [(0, .ref qa), (1, .int x)] := hl
  refine z_q (fun Q hQ => ?_)
  refine lv_iconst (v := nI 0) hx hb dAR_fill_0 (by decide) ?_
  refine lv_istore_n hx hb dAR_fill_1 rfl hl (Nat.le_of_ble_eq_true rfl) rfl (fun ls hl => ?_)
  have hl : lv_has ls 4 [(2, .int (nI 0)), (0, .ref qa), (1, .int x)] := hl
  refine lv_aload_n hx hb dAR_fill_2 rfl (lv_at hl 1 rfl) ?_
  refine va_alen (v := nI 12) hx hb hK hP 0 0 rfl rfl rfl dAR_fill_3 ?_
  refine lv_istore_n hx hb dAR_fill_4 rfl hl (Nat.le_of_ble_eq_true rfl) rfl (fun ls hl => ?_)
  have hl : lv_has ls 4 [(3, .int (nI 12)), (2, .int (nI 0)), (0, .ref qa), (1, .int x)] := hl
  refine zl_upW (σ := (Nat → Int32)) 12 (fun i fo ls H locs => lv_has ls 4 [(2, .int (nI i)), (3, .int (nI 12)), (1, .int x), (0, .ref qa)] ∧ va_P (dC, dI) vwCl ([zar qa ka 12 fo] ++ T) H ∧ va_D A ([zar qa ka 12 fo] ++ T) ∧ va_S A s.heap H locs) ?_ ?_ 0 (by decide) f ls s.heap [] ⟨lv_sub hl [1, 0, 3, 2] rfl, hP, hD, hS⟩
  · intro x9 ls H locs hI
    obtain ⟨fo, rfl⟩ : ∃ z, z = x9 := ⟨_, rfl⟩
    obtain ⟨hl, hP, hD, hS⟩ := hI
    have hl : lv_has ls 4 [(2, .int (nI 12)), (3, .int (nI 12)), (1, .int x), (0, .ref qa)] := hl
    have hP : va_P (dC, dI) vwCl ([zar qa ka 12 fo] ++ T) H := hP
    have hD : va_D A ([zar qa ka 12 fo] ++ T) := hD
    refine lv_iload_n hx hb dAR_fill_5 rfl (lv_at hl 0 rfl) ?_
    refine lv_iload_n hx hb dAR_fill_6 rfl (lv_at hl 1 rfl) ?_
    refine lv_icmp_ge (tgt := 20) hx hb dAR_fill_7 rfl (fun _ => ?_) (fun h => absurd (by decide) h)
    subst hQ
    exact zw_vret (D := (dC, dI)) (cl := vwCl) (A := A) fo hx hb hr hlocks (trivial) (zt_sub hP [0] rfl) (hK.sub [] rfl) (zt_subD hD [0] (by decide) rfl) hS dAR_fill_20
  · intro i hi ih
    intro x9 ls H locs hI
    obtain ⟨fo, rfl⟩ : ∃ z, z = x9 := ⟨_, rfl⟩
    obtain ⟨hl, hP, hD, hS⟩ := hI
    have hl : lv_has ls 4 [(2, .int (nI i)), (3, .int (nI 12)), (1, .int x), (0, .ref qa)] := hl
    have hP : va_P (dC, dI) vwCl ([zar qa ka 12 fo] ++ T) H := hP
    have hD : va_D A ([zar qa ka 12 fo] ++ T) := hD
    refine lv_iload_n hx hb dAR_fill_5 rfl (lv_at hl 0 rfl) ?_
    refine lv_iload_n hx hb dAR_fill_6 rfl (lv_at hl 1 rfl) ?_
    have t1 := nI_toInt (n := i) (by omega)
    have t2 := nI_toInt (n := 12) (by omega)
    refine lv_icmp_ge (tgt := 20) hx hb dAR_fill_7 rfl (fun h => by have h := z_le h; omega) (fun _ => ?_)
    refine lv_aload_n hx hb dAR_fill_10 rfl (lv_at hl 3 rfl) ?_
    refine lv_iload_n hx hb dAR_fill_11 rfl (lv_at hl 0 rfl) ?_
    refine lv_iload_n hx hb dAR_fill_12 rfl (lv_at hl 2 rfl) ?_
    refine va_iast hx hb hK hP hD hS 0 0 rfl rfl (vp_in_nI (by omega) (by omega)) dAR_fill_13 (fun H locs hP hD hS => ?_)
    have hP : va_P (dC, dI) vwCl ([zar qa ka 12 (upd fo (nI i).toNatClampNeg x)] ++ T) H := hP
    have hD : va_D A ([zar qa ka 12 (upd fo (nI i).toNatClampNeg x)] ++ T) := hD
    obtain ⟨w3, e_w⟩ : ∃ f9 : Nat → Int32, f9 = upd fo (nI i).toNatClampNeg x := ⟨_, rfl⟩
    rw [← e_w] at hP hD
    have hP : va_P (dC, dI) vwCl ([zar qa ka 12 w3] ++ T) H := hP
    have hD : va_D A ([zar qa ka 12 w3] ++ T) := hD
    refine lv_iinc (k := 0) (v := nI (i + 1)) hx hb dAR_fill_14 hl rfl (by rw [show Int32.ofInt 1 = nI 1 from by decide]; exact nI_add _ _) (Nat.le_of_ble_eq_true rfl) rfl (fun ls hl => ?_)
    have hl : lv_has ls 4 [(2, .int (nI (i + 1))), (3, .int (nI 12)), (1, .int x), (0, .ref qa)] := hl
    refine lv_goto (tgt := 5) hx hb dAR_fill_17 rfl ?_
    exact ih w3 ls H locs ⟨lv_sub hl [0, 1, 2, 3] rfl, hP, hD, hS⟩

set_option maxHeartbeats 4000000 in
set_option maxRecDepth 100000 in
theorem f_LI_reset (l : Launch) (dC : Nat → ClassId) (dI : Nat → Nat → Nat) (T : va_W) (a : Nat) (qa : Nat) (ka : ClassId) (f : Nat → Int32) : zw_Mv (S := (Nat → Int32)) l yLI_reset wLI_reset ({ frames := 1, cells := 0, slots := 0, locals := 23 }) [.ref a] (dC, dI) vwCl ([zob a 4 [.ref qa], zar qa ka 12 f] ++ T) [(ka, .int)] (fun _ _ => True) (fun (f2 : Nat → Int32) => True) (fun (f2 : Nat → Int32) => ([zob a 4 [.ref qa], zar qa ka 12 f2] ++ T)) (fun (f2 : Nat → Int32) => []) 0 0 := by
  refine zw_headv (cc := cLI_reset) (maxL := 1) (ret := none) (by decide +kernel) rfl (Nat.le_of_ble_eq_true rfl) ?_
  intro p e s m below meth c ls A F hnm hA hP hK hD hS hX hl
  obtain ⟨hx, hb, hml, hr, hlocks, hown, hts⟩ := F
  have hown : s.vm.findClass "SpannedCells$Lines" = some m.cls := hown
  have hz : ∀ w9 ∈ zT, w9.before [.ref a].toArray s = true := fun w9 h => hts w9 (List.mem_cons_of_mem _ h)
  have hl : lv_has ls 1 [(0, .ref a)] := hl
  refine z_q (fun Q hQ => ?_)
  refine lv_aload_n hx hb dLI_reset_0 rfl (lv_at hl 0 rfl) ?_
  refine va_get (D := (dC, dI)) (ci := 4) (v := .ref qa) (C := RLI) (T := TLI) (N := 1) hx hb hz in_LI hown hK hP 0 rfl rfl 0 (by decide) (hz _ wd_116) (fun _ h9 => h9) rfl dLI_reset_1 ?_
  refine lv_iconst (v := nI 0) hx hb dLI_reset_4 (by decide) ?_
  refine zw_callTv (wr := [zob a 4 [.ref qa]]) hK hP hD hS hA [1] [0] rfl rfl (by decide) (by decide) (va_runS (As := [.ref qa, .int (nI 0)]) (rest := []) ⟨hx, hb, hml, hown, hz⟩ ((f_AR_fill l dC dI T qa ka f (nI 0) ) s.heap.size) (va_cwS 2 hz (z_gS wd_461 wd_462 wd_43 wd_463) rfl rfl rfl (by decide +kernel) ⟨Nat.le_of_ble_eq_true rfl, Nat.le_of_ble_eq_true rfl⟩) (zw_preST hK hP hD [1] (by decide) rfl [0] rfl z_true (fun _ _ _ => trivial)) rfl rfl hl.1 rfl (lv_room (Nat.le_of_ble_eq_true rfl)) dLI_reset_5 ⟨Nat.le_of_ble_eq_true rfl, Nat.le_of_ble_eq_true rfl⟩) (fun u H locs h_r2 hP hD hK hS => ?_)
  obtain ⟨f_1, rfl⟩ : ∃ z, z = u := ⟨_, rfl⟩
  have hP : va_P (dC, dI) vwCl ([zob a 4 [.ref qa], zar qa ka 12 f_1] ++ T) H := zt_sub hP [0, 1] rfl
  have hD : va_D A ([zob a 4 [.ref qa], zar qa ka 12 f_1] ++ T) := zt_subD hD [0, 1] (by decide) rfl
  have hK : va_K (dC, dI) vwCl [(ka, .int)] s := hK
  subst hQ
  exact zw_vret (D := (dC, dI)) (cl := vwCl) (A := A) f_1 hx hb hr hlocks (trivial) (zt_sub hP [0, 1] rfl) (hK.sub [] rfl) (zt_subD hD [0, 1] (by decide) rfl) hS dLI_reset_8
