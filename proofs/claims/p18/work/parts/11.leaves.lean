set_option maxHeartbeats 4000000 in
set_option maxRecDepth 100000 in
theorem f_CE_right (l : Launch) (dC : Nat → ClassId) (dI : Nat → Nat → Nat) (a : Nat) (f0 : Nat) (f1 : Nat) (f2 : Nat) (f3 : Nat) (f4 : Nat) (f5 : Nat) (f6 : Nat) (f7 : Nat) (f8 : Nat) (f9 : Nat) : zp_M l yCE_right wCE_right ({ frames := 0, cells := 0, slots := 0, locals := 0 }) [.ref a] (dC, dI) vwCl [zob a 7 [.int (nI f0), .int (nI f1), .int (nI f2), .int (nI f3), .int (nI f4), .int (nI f5), .int (nI f6), .int (nI f7), .int (nI f8), .int (nI f9)]] [] (fun _ => True) (fun r => r = nI (f0 + f2)) := by
  refine zp_head (cc := cCE_right) (maxL := 1) (ret := (some .int)) (by decide +kernel) rfl (Nat.le_of_ble_eq_true rfl) ?_
  intro p e s m below meth c ls F hP hK hX hl
  obtain ⟨hx, hb, hml, hr, hlocks, hown, hts⟩ := F
  have hown : s.vm.findClass "SpannedCells$Cell" = some m.cls := hown
  have hz : ∀ w9 ∈ zT, w9.before [.ref a].toArray s = true := fun w9 h => hts w9 (List.mem_cons_of_mem _ h)
  have hl : lv_has ls 1 [(0, .ref a)] := hl
  refine z_q (fun Q hQ => ?_)
  refine lv_aload_n hx hb dCE_right_0 rfl (lv_at hl 0 rfl) ?_
  refine va_get (D := (dC, dI)) (ci := 7) (v := .int (nI f0)) (C := RCE) (T := TCE) (N := 10) hx hb hz in_CE hown hK hP 0 rfl rfl 0 (by decide) (hz _ wd_251) (fun _ h9 => h9) rfl dCE_right_1 ?_
  refine lv_aload_n hx hb dCE_right_4 rfl (lv_at hl 0 rfl) ?_
  refine va_get (D := (dC, dI)) (ci := 7) (v := .int (nI f2)) (C := RCE) (T := TCE) (N := 10) hx hb hz in_CE hown hK hP 0 rfl rfl 2 (by decide) (hz _ wd_260) (fun _ h9 => h9) rfl dCE_right_5 ?_
  refine lv_iadd hx hb dCE_right_8 ?_
  refine lv_topi (fun x1 e2 => ?_)
  have e2 : x1 = nI (f0 + f2) := e2.trans (nI_add _ _)
  subst e2
  subst hQ
  exact zp_iret hx hb hr hlocks (rfl) dCE_right_9

set_option maxHeartbeats 4000000 in
set_option maxRecDepth 100000 in
theorem f_CE_bottom (l : Launch) (dC : Nat → ClassId) (dI : Nat → Nat → Nat) (a : Nat) (f0 : Nat) (f1 : Nat) (f2 : Nat) (f3 : Nat) (f4 : Nat) (f5 : Nat) (f6 : Nat) (f7 : Nat) (f8 : Nat) (f9 : Nat) : zp_M l yCE_bottom wCE_bottom ({ frames := 0, cells := 0, slots := 0, locals := 0 }) [.ref a] (dC, dI) vwCl [zob a 7 [.int (nI f0), .int (nI f1), .int (nI f2), .int (nI f3), .int (nI f4), .int (nI f5), .int (nI f6), .int (nI f7), .int (nI f8), .int (nI f9)]] [] (fun _ => True) (fun r => r = nI (f1 + f7)) := by
  refine zp_head (cc := cCE_bottom) (maxL := 1) (ret := (some .int)) (by decide +kernel) rfl (Nat.le_of_ble_eq_true rfl) ?_
  intro p e s m below meth c ls F hP hK hX hl
  obtain ⟨hx, hb, hml, hr, hlocks, hown, hts⟩ := F
  have hown : s.vm.findClass "SpannedCells$Cell" = some m.cls := hown
  have hz : ∀ w9 ∈ zT, w9.before [.ref a].toArray s = true := fun w9 h => hts w9 (List.mem_cons_of_mem _ h)
  have hl : lv_has ls 1 [(0, .ref a)] := hl
  refine z_q (fun Q hQ => ?_)
  refine lv_aload_n hx hb dCE_bottom_0 rfl (lv_at hl 0 rfl) ?_
  refine va_get (D := (dC, dI)) (ci := 7) (v := .int (nI f1)) (C := RCE) (T := TCE) (N := 10) hx hb hz in_CE hown hK hP 0 rfl rfl 1 (by decide) (hz _ wd_255) (fun _ h9 => h9) rfl dCE_bottom_1 ?_
  refine lv_aload_n hx hb dCE_bottom_4 rfl (lv_at hl 0 rfl) ?_
  refine va_get (D := (dC, dI)) (ci := 7) (v := .int (nI f7)) (C := RCE) (T := TCE) (N := 10) hx hb hz in_CE hown hK hP 0 rfl rfl 7 (by decide) (hz _ wd_271) (fun _ h9 => h9) rfl dCE_bottom_5 ?_
  refine lv_iadd hx hb dCE_bottom_8 ?_
  refine lv_topi (fun x1 e2 => ?_)
  have e2 : x1 = nI (f1 + f7) := e2.trans (nI_add _ _)
  subst e2
  subst hQ
  exact zp_iret hx hb hr hlocks (rfl) dCE_bottom_9

set_option maxHeartbeats 4000000 in
set_option maxRecDepth 100000 in
theorem f_CE_takes (l : Launch) (dC : Nat → ClassId) (dI : Nat → Nat → Nat) (a : Nat) (f0 : Nat) (f1 : Nat) (f2 : Nat) (f3 : Nat) (f4 : Nat) (f5 : Nat) (f6 : Nat) (f7 : Nat) (f8 : Nat) (f9 : Nat) (x : Int32) (y : Int32) (h1 : f0 + f2 < 2147483648) (h2 : f1 + f7 < 2147483648) : zp_M l yCE_takes wCE_takes ({ frames := 1, cells := 0, slots := 0, locals := 20 }) [.ref a, .int x, .int y] (dC, dI) vwCl [zob a 7 [.int (nI f0), .int (nI f1), .int (nI f2), .int (nI f3), .int (nI f4), .int (nI f5), .int (nI f6), .int (nI f7), .int (nI f8), .int (nI f9)]] [] (fun _ => True) (fun r => z_yn r (zTk f0 f2 f1 f7 x y)) := by
  refine zp_head (cc := cCE_takes) (maxL := 3) (ret := (some .boolean)) (by decide +kernel) rfl (Nat.le_of_ble_eq_true rfl) ?_
  intro p e s m below meth c ls F hP hK hX hl
  obtain ⟨hx, hb, hml, hr, hlocks, hown, hts⟩ := F
  have hown : s.vm.findClass "SpannedCells$Cell" = some m.cls := hown
  have hz : ∀ w9 ∈ zT, w9.before [.ref a, .int x, .int y].toArray s = true := fun w9 h => hts w9 (List.mem_cons_of_mem _ h)
  have hl : lv_has ls 3 [(0, .ref a), (1, .int x), (2, .int y)] := hl
  refine z_q (fun Q hQ => ?_)
  refine lv_aload_n hx hb dCE_takes_0 rfl (lv_at hl 0 rfl) ?_
  refine va_get (D := (dC, dI)) (ci := 7) (v := .int (nI f0)) (C := RCE) (T := TCE) (N := 10) hx hb hz in_CE hown hK hP 0 rfl rfl 0 (by decide) (hz _ wd_251) (fun _ h9 => h9) rfl dCE_takes_1 ?_
  refine lv_iload_n hx hb dCE_takes_4 rfl (lv_at hl 1 rfl) ?_
  have t1 := nI_toInt (n := f0) (by omega)
  refine lv_icmp_gt (tgt := 36) hx hb dCE_takes_5 rfl (fun h2 => ?_) (fun h2 => ?_)
  · have h2 := z_lt h2
    refine lv_iconst (v := nI 0) hx hb dCE_takes_36 (by decide) ?_
    subst hQ
    exact zp_zret hx hb hr hlocks (Or.inl rfl) (z_tk0 (by omega)) dCE_takes_37
  · have h2 := z_nlt h2
    refine lv_iload_n hx hb dCE_takes_8 rfl (lv_at hl 1 rfl) ?_
    refine lv_aload_n hx hb dCE_takes_9 rfl (lv_at hl 0 rfl) ?_
    refine vp_callSi (W.runV (As := []) (rest := [.int x]) ⟨hx, hb, hml, hown, hz⟩ (f_CE_right l dC dI a f0 f1 f2 f3 f4 f5 f6 f7 f8 f9 ) (cwV 0 hz (z_gV wd_238 wd_239 wd_240 wd_41 wd_241) rfl rfl rfl (by decide +kernel) ⟨Nat.le_of_ble_eq_true rfl, Nat.le_of_ble_eq_true rfl⟩) (zr_preV hK (hP.sub [0] rfl) (va_recv (q0 := 0) hK hP (q := (RCE, TCE, 10)) rfl rfl) [] rfl z_true (fun _ _ _ => trivial)) rfl rfl hl.1 rfl (lv_room (Nat.le_of_ble_eq_true rfl)) dCE_takes_10 ⟨Nat.le_of_ble_eq_true rfl, Nat.le_of_ble_eq_true rfl⟩) (fun r3 h_r3 => ?_)
    have h_r3 : r3 = nI (f0 + f2) := h_r3
    subst h_r3
    have t4 := nI_toInt (n := f0 + f2) (by omega)
    refine lv_icmp_ge (tgt := 36) hx hb dCE_takes_13 rfl (fun h5 => ?_) (fun h5 => ?_)
    · have h5 := z_le h5
      refine lv_iconst (v := nI 0) hx hb dCE_takes_36 (by decide) ?_
      subst hQ
      exact zp_zret hx hb hr hlocks (Or.inl rfl) (z_tk0 (by omega)) dCE_takes_37
    · have h5 := z_nle h5
      refine lv_aload_n hx hb dCE_takes_16 rfl (lv_at hl 0 rfl) ?_
      refine va_get (D := (dC, dI)) (ci := 7) (v := .int (nI f1)) (C := RCE) (T := TCE) (N := 10) hx hb hz in_CE hown hK hP 0 rfl rfl 1 (by decide) (hz _ wd_255) (fun _ h9 => h9) rfl dCE_takes_17 ?_
      refine lv_iload_n hx hb dCE_takes_20 rfl (lv_at hl 2 rfl) ?_
      have t6 := nI_toInt (n := f1) (by omega)
      refine lv_icmp_gt (tgt := 36) hx hb dCE_takes_21 rfl (fun h7 => ?_) (fun h7 => ?_)
      · have h7 := z_lt h7
        refine lv_iconst (v := nI 0) hx hb dCE_takes_36 (by decide) ?_
        subst hQ
        exact zp_zret hx hb hr hlocks (Or.inl rfl) (z_tk0 (by omega)) dCE_takes_37
      · have h7 := z_nlt h7
        refine lv_iload_n hx hb dCE_takes_24 rfl (lv_at hl 2 rfl) ?_
        refine lv_aload_n hx hb dCE_takes_25 rfl (lv_at hl 0 rfl) ?_
        refine vp_callSi (W.runV (As := []) (rest := [.int y]) ⟨hx, hb, hml, hown, hz⟩ (f_CE_bottom l dC dI a f0 f1 f2 f3 f4 f5 f6 f7 f8 f9 ) (cwV 0 hz (z_gV wd_242 wd_243 wd_244 wd_41 wd_245) rfl rfl rfl (by decide +kernel) ⟨Nat.le_of_ble_eq_true rfl, Nat.le_of_ble_eq_true rfl⟩) (zr_preV hK (hP.sub [0] rfl) (va_recv (q0 := 0) hK hP (q := (RCE, TCE, 10)) rfl rfl) [] rfl z_true (fun _ _ _ => trivial)) rfl rfl hl.1 rfl (lv_room (Nat.le_of_ble_eq_true rfl)) dCE_takes_26 ⟨Nat.le_of_ble_eq_true rfl, Nat.le_of_ble_eq_true rfl⟩) (fun r8 h_r8 => ?_)
        have h_r8 : r8 = nI (f1 + f7) := h_r8
        subst h_r8
        have t9 := nI_toInt (n := f1 + f7) (by omega)
        refine lv_icmp_ge (tgt := 36) hx hb dCE_takes_29 rfl (fun h10 => ?_) (fun h10 => ?_)
        · have h10 := z_le h10
          refine lv_iconst (v := nI 0) hx hb dCE_takes_36 (by decide) ?_
          subst hQ
          exact zp_zret hx hb hr hlocks (Or.inl rfl) (z_tk0 (by omega)) dCE_takes_37
        · have h10 := z_nle h10
          refine lv_iconst (v := nI 1) hx hb dCE_takes_32 (by decide) ?_
          refine lv_goto (tgt := 37) hx hb dCE_takes_33 rfl ?_
          subst hQ
          exact zp_zret hx hb hr hlocks (Or.inr rfl) (z_tk1 (by omega)) dCE_takes_37

set_option maxHeartbeats 4000000 in
set_option maxRecDepth 100000 in
theorem f_SC_within (l : Launch) (dC : Nat → ClassId) (dI : Nat → Nat → Nat) (v : Int32) (lo : Int32) (hi : Int32) : zp_M l ySC_within wSC_within ({ frames := 0, cells := 0, slots := 0, locals := 0 }) [.int v, .int lo, .int hi] (dC, dI) vwCl [] [] (fun _ => True) (fun r => z_yn r (lo.toInt ≤ v.toInt ∧ v.toInt ≤ hi.toInt)) := by
  refine zp_head (cc := cSC_within) (maxL := 3) (ret := (some .boolean)) (by decide +kernel) rfl (Nat.le_of_ble_eq_true rfl) ?_
  intro p e s m below meth c ls F hP hK hX hl
  obtain ⟨hx, hb, hml, hr, hlocks, hown, hts⟩ := F
  have hown : s.vm.findClass "SpannedCells" = some m.cls := hown
  have hz : ∀ w9 ∈ zT, w9.before [.int v, .int lo, .int hi].toArray s = true := fun w9 h => hts w9 (List.mem_cons_of_mem _ h)
  have hl : lv_has ls 3 [(0, .int v), (1, .int lo), (2, .int hi)] := hl
  refine z_q (fun Q hQ => ?_)
  refine lv_iload_n hx hb dSC_within_0 rfl (lv_at hl 1 rfl) ?_
  refine lv_iload_n hx hb dSC_within_1 rfl (lv_at hl 0 rfl) ?_
  refine lv_icmp_gt (tgt := 14) hx hb dSC_within_2 rfl (fun h1 => ?_) (fun h1 => ?_)
  · have h1 := z_lt h1
    refine lv_iconst (v := nI 0) hx hb dSC_within_14 (by decide) ?_
    subst hQ
    exact zp_zret hx hb hr hlocks (Or.inl rfl) (z_y0 (by omega)) dSC_within_15
  · have h1 := z_nlt h1
    refine lv_iload_n hx hb dSC_within_5 rfl (lv_at hl 0 rfl) ?_
    refine lv_iload_n hx hb dSC_within_6 rfl (lv_at hl 2 rfl) ?_
    refine lv_icmp_gt (tgt := 14) hx hb dSC_within_7 rfl (fun h2 => ?_) (fun h2 => ?_)
    · have h2 := z_lt h2
      refine lv_iconst (v := nI 0) hx hb dSC_within_14 (by decide) ?_
      subst hQ
      exact zp_zret hx hb hr hlocks (Or.inl rfl) (z_y0 (by omega)) dSC_within_15
    · have h2 := z_nlt h2
      refine lv_iconst (v := nI 1) hx hb dSC_within_10 (by decide) ?_
      refine lv_goto (tgt := 15) hx hb dSC_within_11 rfl ?_
      subst hQ
      exact zp_zret hx hb hr hlocks (Or.inr rfl) (z_y1 (by omega)) dSC_within_15

set_option maxHeartbeats 4000000 in
set_option maxRecDepth 100000 in
theorem f_PR_checkIndex (l : Launch) (dC : Nat → ClassId) (dI : Nat → Nat → Nat) (k : Nat) (n : Nat) (hk : k < n) (hn : n < 2147483648) : zp_M l yPR_checkIndex wPR_checkIndex ({ frames := 0, cells := 0, slots := 0, locals := 0 }) [.int (nI k), .int (nI n), .null] (dC, dI) vwCl [] [] (fun _ => True) (fun r => r = nI k) := by
  refine zp_head (cc := cPR_checkIndex) (maxL := 3) (ret := (some .int)) (by decide +kernel) rfl (Nat.le_of_ble_eq_true rfl) ?_
  intro p e s m below meth c ls F hP hK hX hl
  obtain ⟨hx, hb, hml, hr, hlocks, hown, hts⟩ := F
  have hown : s.vm.findClass "jdk/internal/util/Preconditions" = some m.cls := hown
  have hz : ∀ w9 ∈ zT, w9.before [.int (nI k), .int (nI n), .null].toArray s = true := fun w9 h => hts w9 (List.mem_cons_of_mem _ h)
  have hl : lv_has ls 3 [(0, .int (nI k)), (1, .int (nI n)), (2, .null)] := hl
  refine z_q (fun Q hQ => ?_)
  refine lv_iload_n hx hb dPR_checkIndex_0 rfl (lv_at hl 0 rfl) ?_
  have t1 := nI_toInt (n := k) (by omega)
  have t2 : (0 : Int32).toInt = 0 := by decide
  refine lv_if_lt (tgt := 9) hx hb dPR_checkIndex_1 rfl (fun h => by have h := z_lt h; omega) (fun _ => ?_)
  refine lv_iload_n hx hb dPR_checkIndex_4 rfl (lv_at hl 0 rfl) ?_
  refine lv_iload_n hx hb dPR_checkIndex_5 rfl (lv_at hl 1 rfl) ?_
  have t3 := nI_toInt (n := k) (by omega)
  have t4 := nI_toInt (n := n) (by omega)
  refine lv_icmp_lt (tgt := 16) hx hb dPR_checkIndex_6 rfl (fun _ => ?_) (fun h => by have h := z_nlt h; omega)
  refine lv_iload_n hx hb dPR_checkIndex_16 rfl (lv_at hl 0 rfl) ?_
  subst hQ
  exact zp_iret hx hb hr hlocks (rfl) dPR_checkIndex_17

set_option maxHeartbeats 4000000 in
set_option maxRecDepth 100000 in
theorem f_OS_checkIndex (l : Launch) (dC : Nat → ClassId) (dI : Nat → Nat → Nat) (k : Nat) (n : Nat) (hk : k < n) (hn : n < 2147483648) : zp_M l yOS_checkIndex wOS_checkIndex ({ frames := 1, cells := 0, slots := 0, locals := 22 }) [.int (nI k), .int (nI n)] (dC, dI) vwCl [] [] (fun _ => True) (fun r => r = nI k) := by
  refine zp_head (cc := cOS_checkIndex) (maxL := 2) (ret := (some .int)) (by decide +kernel) rfl (Nat.le_of_ble_eq_true rfl) ?_
  intro p e s m below meth c ls F hP hK hX hl
  obtain ⟨hx, hb, hml, hr, hlocks, hown, hts⟩ := F
  have hown : s.vm.findClass "java/util/Objects" = some m.cls := hown
  have hz : ∀ w9 ∈ zT, w9.before [.int (nI k), .int (nI n)].toArray s = true := fun w9 h => hts w9 (List.mem_cons_of_mem _ h)
  have hl : lv_has ls 2 [(0, .int (nI k)), (1, .int (nI n))] := hl
  refine z_q (fun Q hQ => ?_)
  refine lv_iload_n hx hb dOS_checkIndex_0 rfl (lv_at hl 0 rfl) ?_
  refine lv_iload_n hx hb dOS_checkIndex_1 rfl (lv_at hl 1 rfl) ?_
  refine lv_null hx hb dOS_checkIndex_2 ?_
  refine vp_callSi (W.runS (As := [.int (nI k), .int (nI n), .null]) (rest := []) ⟨hx, hb, hml, hown, hz⟩ (f_PR_checkIndex l dC dI k n (by omega) (by omega)) (va_cwS 3 hz (z_gS wd_203 wd_204 wd_40 wd_205) rfl rfl rfl (by decide +kernel) ⟨Nat.le_of_ble_eq_true rfl, Nat.le_of_ble_eq_true rfl⟩) (zr_preS hK (hP.sub [] rfl) [] rfl z_true (fun _ _ _ => trivial)) rfl rfl hl.1 rfl (lv_room (Nat.le_of_ble_eq_true rfl)) dOS_checkIndex_3 ⟨Nat.le_of_ble_eq_true rfl, Nat.le_of_ble_eq_true rfl⟩) (fun r1 h_r1 => ?_)
  have h_r1 : r1 = nI k := h_r1
  subst h_r1
  subst hQ
  exact zp_iret hx hb hr hlocks (rfl) dOS_checkIndex_6

set_option maxHeartbeats 4000000 in
set_option maxRecDepth 100000 in
theorem f_AL_size (l : Launch) (dC : Nat → ClassId) (dI : Nat → Nat → Nat) (al : Nat) (ed : Nat) (mo : Int32) (n : Nat) : zp_M l yAL_size wAL_size ({ frames := 0, cells := 0, slots := 0, locals := 0 }) [.ref al] (dC, dI) vwCl [zob al 2 [.ref ed, .int (nI n), .int mo]] [] (fun _ => True) (fun r => r = nI n) := by
  refine zp_head (cc := cAL_size) (maxL := 1) (ret := (some .int)) (by decide +kernel) rfl (Nat.le_of_ble_eq_true rfl) ?_
  intro p e s m below meth c ls F hP hK hX hl
  obtain ⟨hx, hb, hml, hr, hlocks, hown, hts⟩ := F
  have hown : s.vm.findClass "java/util/ArrayList" = some m.cls := hown
  have hz : ∀ w9 ∈ zT, w9.before [.ref al].toArray s = true := fun w9 h => hts w9 (List.mem_cons_of_mem _ h)
  have hl : lv_has ls 1 [(0, .ref al)] := hl
  refine z_q (fun Q hQ => ?_)
  refine lv_aload_n hx hb dAL_size_0 rfl (lv_at hl 0 rfl) ?_
  refine va_get (D := (dC, dI)) (ci := 2) (v := .int (nI n)) (C := RAL) (T := TAL) (N := 3) hx hb hz in_AL hown hK hP 0 rfl rfl 1 (by decide) (hz _ wd_74) (fun _ h9 => h9) rfl dAL_size_1 ?_
  subst hQ
  exact zp_iret hx hb hr hlocks (rfl) dAL_size_4

set_option maxHeartbeats 4000000 in
set_option maxRecDepth 100000 in
theorem f_AL_elementData (l : Launch) (dC : Nat → ClassId) (dI : Nat → Nat → Nat) (al : Nat) (ed : Nat) (cE : ClassId) (cap : Nat) (a : Nat → Option Nat) (mo : Int32) (n : Nat) (k : Nat) (x : Nat) (hk : k < n) (hn : n ≤ cap) (hc : cap < 2147483648) (ha : a k = some x) : zp_Mr l yAL_elementData wAL_elementData ({ frames := 0, cells := 0, slots := 0, locals := 0 }) [.ref al, .int (nI k)] (dC, dI) vwCl [zob al 2 [.ref ed, .int (nI n), .int mo], zrf ed cE cap a] [(cE, .object "java/lang/Object")] (fun _ => True) (fun a => a = x) := by
  refine zp_headr (cc := cAL_elementData) (maxL := 2) (ret := (some (.object "java/lang/Object"))) (by decide +kernel) rfl (Nat.le_of_ble_eq_true rfl) ?_
  intro p e s m below meth c ls F hP hK hX hl
  obtain ⟨hx, hb, hml, hr, hlocks, hown, hts⟩ := F
  have hown : s.vm.findClass "java/util/ArrayList" = some m.cls := hown
  have hz : ∀ w9 ∈ zT, w9.before [.ref al, .int (nI k)].toArray s = true := fun w9 h => hts w9 (List.mem_cons_of_mem _ h)
  have hl : lv_has ls 2 [(0, .ref al), (1, .int (nI k))] := hl
  refine z_q (fun Q hQ => ?_)
  refine lv_aload_n hx hb dAL_elementData_0 rfl (lv_at hl 0 rfl) ?_
  refine va_get (D := (dC, dI)) (ci := 2) (v := .ref ed) (C := RAL) (T := TAL) (N := 3) hx hb hz in_AL hown hK hP 0 rfl rfl 0 (by decide) (hz _ wd_73) (fun _ h9 => h9) rfl dAL_elementData_1 ?_
  refine lv_iload_n hx hb dAL_elementData_4 rfl (lv_at hl 1 rfl) ?_
  refine va_aldq hx hb hK hP 1 0 rfl rfl (vp_in_nI (by omega) (by omega)) dAL_elementData_5 ?_
  refine W.eq (g2 := F0 m 6 ls [.ref x]) (by rw [nI_clamp (by omega), ha]; rfl) ?_
  subst hQ
  exact zp_aret hx hb hr (Or.inl ⟨_, rfl⟩) hlocks (rfl) dAL_elementData_6

set_option maxHeartbeats 4000000 in
set_option maxRecDepth 100000 in
theorem f_AL_get (l : Launch) (dC : Nat → ClassId) (dI : Nat → Nat → Nat) (al : Nat) (ed : Nat) (cE : ClassId) (cap : Nat) (a : Nat → Option Nat) (mo : Int32) (n : Nat) (k : Nat) (x : Nat) (hk : k < n) (hn : n ≤ cap) (hc : cap < 2147483648) (ha : a k = some x) : zp_Mr l yAL_get wAL_get ({ frames := 2, cells := 0, slots := 0, locals := 43 }) [.ref al, .int (nI k)] (dC, dI) vwCl [zob al 2 [.ref ed, .int (nI n), .int mo], zrf ed cE cap a] [(cE, .object "java/lang/Object")] (fun _ => True) (fun a => a = x) := by
  refine zp_headr (cc := cAL_get) (maxL := 2) (ret := (some (.object "java/lang/Object"))) (by decide +kernel) rfl (Nat.le_of_ble_eq_true rfl) ?_
  intro p e s m below meth c ls F hP hK hX hl
  obtain ⟨hx, hb, hml, hr, hlocks, hown, hts⟩ := F
  have hown : s.vm.findClass "java/util/ArrayList" = some m.cls := hown
  have hz : ∀ w9 ∈ zT, w9.before [.ref al, .int (nI k)].toArray s = true := fun w9 h => hts w9 (List.mem_cons_of_mem _ h)
  have hl : lv_has ls 2 [(0, .ref al), (1, .int (nI k))] := hl
  refine z_q (fun Q hQ => ?_)
  refine lv_iload_n hx hb dAL_get_0 rfl (lv_at hl 1 rfl) ?_
  refine lv_aload_n hx hb dAL_get_1 rfl (lv_at hl 0 rfl) ?_
  refine va_get (D := (dC, dI)) (ci := 2) (v := .int (nI n)) (C := RAL) (T := TAL) (N := 3) hx hb hz in_AL hown hK hP 0 rfl rfl 1 (by decide) (hz _ wd_74) (fun _ h9 => h9) rfl dAL_get_2 ?_
  refine vp_callSi (W.runS (As := [.int (nI k), .int (nI n)]) (rest := []) ⟨hx, hb, hml, hown, hz⟩ (f_OS_checkIndex l dC dI k n (by omega) (by omega)) (va_cwS 2 hz (z_gS wd_200 wd_201 wd_39 wd_202) rfl rfl rfl (by decide +kernel) ⟨Nat.le_of_ble_eq_true rfl, Nat.le_of_ble_eq_true rfl⟩) (zr_preS hK (hP.sub [] rfl) [] rfl z_true (fun _ _ _ => trivial)) rfl rfl hl.1 rfl (lv_room (Nat.le_of_ble_eq_true rfl)) dAL_get_5 ⟨Nat.le_of_ble_eq_true rfl, Nat.le_of_ble_eq_true rfl⟩) (fun r1 h_r1 => ?_)
  have h_r1 : r1 = nI k := h_r1
  subst h_r1
  refine lv_pop hx hb dAL_get_8 rfl ?_
  refine lv_aload_n hx hb dAL_get_9 rfl (lv_at hl 0 rfl) ?_
  refine lv_iload_n hx hb dAL_get_10 rfl (lv_at hl 1 rfl) ?_
  refine va_csr (W.runV (As := [.int (nI k)]) (rest := []) ⟨hx, hb, hml, hown, hz⟩ (f_AL_elementData l dC dI al ed cE cap a mo n k x (by omega) (by omega) (by omega) (ha)) (cwV 1 hz (z_gV wd_206 wd_207 wd_208 wd_33 wd_209) rfl rfl rfl (by decide +kernel) ⟨Nat.le_of_ble_eq_true rfl, Nat.le_of_ble_eq_true rfl⟩) (zr_preV hK (hP.sub [0, 1] rfl) (va_recv (q0 := 0) hK hP (q := (RAL, TAL, 3)) rfl rfl) [0] rfl z_true (fun _ _ _ => trivial)) rfl rfl hl.1 rfl (lv_room (Nat.le_of_ble_eq_true rfl)) dAL_get_11 ⟨Nat.le_of_ble_eq_true rfl, Nat.le_of_ble_eq_true rfl⟩) (fun r2 h_r2 => ?_)
  have h_r2 : r2 = x := h_r2
  subst h_r2
  subst hQ
  exact zp_aret hx hb hr (Or.inl ⟨_, rfl⟩) hlocks (rfl) dAL_get_14
