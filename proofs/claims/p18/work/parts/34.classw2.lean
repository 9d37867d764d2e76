set_option maxHeartbeats 4000000 in
set_option maxRecDepth 100000 in
theorem f_GR_extendGroupTo (l : Launch) (dC : Nat → ClassId) (dI : Nat → Nat → Nat) (g : Nat) (gr : Nat) (gs : Nat) (bg : Nat) (re : Nat) (ce : Nat) (al : Nat) (ed : Nat) (cE : ClassId) (cap : Nat) (a : Nat → Option Nat) (mo : Int32) (n : Nat) (ad : Nat → Nat) (d : Nat → Nat → Nat) (e1 : Nat) (r2 : Nat) (hn : n ≤ cap) (hc : cap < 2147483648) (ha : ∀ k, k < n → a k = some (ad k)) (hd : ∀ j k, k < n → d j k ≤ 1000) (hg : gr ≤ 1000 ∧ gs ≤ 1000 ∧ bg ≤ 1000 ∧ re ≤ 1000 ∧ ce ≤ 1000) (he : e1 ≤ 1000) (ht : ∀ k, k < n → d 1 k ≤ (if re < e1 then e1 else re)) (h2 : r2 = (if re < e1 then e1 else re)) : zw_Mv (S := Unit) l yGR_extendGroupTo wGR_extendGroupTo ({ frames := 3, cells := 0, slots := 0, locals := 64 }) [.ref g, .int (nI e1)] (dC, dI) vwCl ([zob g 1 [.ref al, .int (nI gr), .int (nI gs), .int (nI bg), .int (nI re), .int (nI ce)], zob al 2 [.ref ed, .int (nI n), .int mo], zrf ed cE cap a] ++ zcs n ad (zcf d)) [(cE, .object "java/lang/Object")] (fun _ _ => True) (fun (_ : Unit) => True) (fun (_ : Unit) => ([zob g 1 [.ref al, .int (nI gr), .int (nI gs), .int (nI bg), .int (nI r2), .int (nI ce)], zob al 2 [.ref ed, .int (nI n), .int mo], zrf ed cE cap a] ++ zcs n ad (zcf (zGw d n gs r2)))) (fun (_ : Unit) => []) 0 0 := by
  refine zw_headv (cc := cGR_extendGroupTo) (maxL := 4) (ret := none) (by decide +kernel) rfl (Nat.le_of_ble_eq_true rfl) ?_
  intro p e s m below meth c ls A F hnm hA hP hK hD hS hX hl
  obtain ⟨hx, hb, hml, hr, hlocks, hown, hts⟩ := F
  have hown : s.vm.findClass "SpannedCells$Grid" = some m.cls := hown
  have hz : ∀ w9 ∈ zT, w9.before [.ref g, .int (nI e1)].toArray s = true := fun w9 h => hts w9 (List.mem_cons_of_mem _ h)
  have hl : lv_has ls 4 [(0, .ref g), (1, .int (nI e1))] := hl
  refine z_q (fun Q hQ => ?_)
  have hr2b : r2 ≤ 1000 := by rw [h2]; split <;> omega
  refine lv_aload_n hx hb dGR_extendGroupTo_0 rfl (lv_at hl 0 rfl) ?_
  refine lv_aload_n hx hb dGR_extendGroupTo_1 rfl (lv_at hl 0 rfl) ?_
  refine va_get (D := (dC, dI)) (ci := 1) (v := .int (nI re)) (C := RGR) (T := TGR) (N := 6) hx hb hz in_GR hown hK hP 0 rfl rfl 4 (by decide) (hz _ wd_89) (fun _ h9 => h9) rfl dGR_extendGroupTo_2 ?_
  refine lv_iload_n hx hb dGR_extendGroupTo_5 rfl (lv_at hl 1 rfl) ?_
  refine va_mmax hx hb (hml.trans hl.1.symm) hown (hz _ wd_189) (hz _ wd_190) (hz _ wd_38) (hz _ wd_191) (Nat.le_of_ble_eq_true rfl) (Nat.le_of_ble_eq_true rfl) (Nat.le_of_ble_eq_true rfl) (Nat.le_of_ble_eq_true rfl) dGR_extendGroupTo_6 ?_
  refine lv_topi (fun x1 e2 => ?_)
  have e2 : x1 = nI r2 := e2.trans (by rw [h2]; exact z_max (by omega) (by omega))
  subst e2
  refine va_put (D := (dC, dI)) (ci := 1) (v := .int (nI r2)) (ty := .int) (C := RGR) (T := TGR) (N := 6) hx hb hz in_GR tyGR tokGR nokGR hown hK hP hD hS 0 rfl rfl 4 (by decide) (hz _ wd_89) (fun _ h9 => h9) rfl (by decide +kernel) rfl rfl (Nat.le_of_ble_eq_true rfl) dGR_extendGroupTo_9 (fun H locs hP hD hS => ?_)
  have hP : va_P (dC, dI) vwCl ([zob g 1 [.ref al, .int (nI gr), .int (nI gs), .int (nI bg), .int (nI r2), .int (nI ce)], zob al 2 [.ref ed, .int (nI n), .int mo], zrf ed cE cap a] ++ zcs n ad (zcf d)) H := hP
  have hD : va_D A ([zob g 1 [.ref al, .int (nI gr), .int (nI gs), .int (nI bg), .int (nI r2), .int (nI ce)], zob al 2 [.ref ed, .int (nI n), .int mo], zrf ed cE cap a] ++ zcs n ad (zcf d)) := hD
  refine lv_iconst (v := nI 0) hx hb dGR_extendGroupTo_12 (by decide) ?_
  refine lv_istore_n hx hb dGR_extendGroupTo_13 rfl hl (Nat.le_of_ble_eq_true rfl) rfl (fun ls hl => ?_)
  have hl : lv_has ls 4 [(2, .int (nI 0)), (0, .ref g), (1, .int (nI e1))] := hl
  rw [← zGw_0 (d := d) (gs := gs) (re := r2)] at hP hD
  refine zl_upW (σ := Unit) n (fun i x9 ls H locs => lv_has ls 4 [(2, .int (nI i)), (1, .int (nI e1)), (0, .ref g)] ∧ va_P (dC, dI) vwCl ([zob g 1 [.ref al, .int (nI gr), .int (nI gs), .int (nI bg), .int (nI r2), .int (nI ce)], zob al 2 [.ref ed, .int (nI n), .int mo], zrf ed cE cap a] ++ zcs n ad (zcf (zGw d i gs r2))) H ∧ va_D A ([zob g 1 [.ref al, .int (nI gr), .int (nI gs), .int (nI bg), .int (nI r2), .int (nI ce)], zob al 2 [.ref ed, .int (nI n), .int mo], zrf ed cE cap a] ++ zcs n ad (zcf (zGw d i gs r2))) ∧ va_S A s.heap H locs) ?_ ?_ 0 (Nat.zero_le _) () ls H locs ⟨lv_sub hl [0, 2, 1] rfl, hP, hD, hS⟩
  · intro x9 ls H locs hI
    obtain ⟨hl, hP, hD, hS⟩ := hI
    have hl : lv_has ls 4 [(2, .int (nI n)), (1, .int (nI e1)), (0, .ref g)] := hl
    have hP : va_P (dC, dI) vwCl ([zob g 1 [.ref al, .int (nI gr), .int (nI gs), .int (nI bg), .int (nI r2), .int (nI ce)], zob al 2 [.ref ed, .int (nI n), .int mo], zrf ed cE cap a] ++ zcs n ad (zcf (zGw d n gs r2))) H := hP
    have hD : va_D A ([zob g 1 [.ref al, .int (nI gr), .int (nI gs), .int (nI bg), .int (nI r2), .int (nI ce)], zob al 2 [.ref ed, .int (nI n), .int mo], zrf ed cE cap a] ++ zcs n ad (zcf (zGw d n gs r2))) := hD
    refine lv_iload_n hx hb dGR_extendGroupTo_14 rfl (lv_at hl 0 rfl) ?_
    refine lv_aload_n hx hb dGR_extendGroupTo_15 rfl (lv_at hl 2 rfl) ?_
    refine va_get (D := (dC, dI)) (ci := 1) (v := .ref al) (C := RGR) (T := TGR) (N := 6) hx hb hz in_GR hown hK hP 0 rfl rfl 0 (by decide) (hz _ wd_85) (fun _ h9 => h9) rfl dGR_extendGroupTo_16 ?_
    refine vp_callSi (W.runV (As := []) (rest := [.int (nI n)]) ⟨hx, hb, hml, hown, hz⟩ (f_AL_size l dC dI al ed mo n ) (cwV 0 hz (z_gV wd_192 wd_193 wd_194 wd_33 wd_195) rfl rfl rfl (by decide +kernel) ⟨Nat.le_of_ble_eq_true rfl, Nat.le_of_ble_eq_true rfl⟩) (zr_preV hK (hP.sub [1] rfl) (va_recv (q0 := 1) hK hP (q := (RAL, TAL, 3)) rfl rfl) [] rfl z_true (fun _ _ _ => trivial)) rfl rfl hl.1 rfl (lv_room (Nat.le_of_ble_eq_true rfl)) dGR_extendGroupTo_19 ⟨Nat.le_of_ble_eq_true rfl, Nat.le_of_ble_eq_true rfl⟩) (fun r3 h_r3 => ?_)
    have h_r3 : r3 = nI n := h_r3
    subst h_r3
    have t4 := nI_toInt (n := n) (by omega)
    have t5 := nI_toInt (n := n) (by omega)
    refine lv_icmp_ge (tgt := 62) hx hb dGR_extendGroupTo_22 rfl (fun _ => ?_) (fun h => by have h := z_nle h; omega)
    subst hQ
    exact zw_vret (D := (dC, dI)) (cl := vwCl) (A := A) () hx hb hr hlocks (trivial) (zt_sub hP [0, 1, 2] rfl) (hK.sub [] rfl) (zt_subD hD [0, 1, 2] (by decide) rfl) hS dGR_extendGroupTo_62
  · intro i hi ih
    intro x9 ls H locs hI
    obtain ⟨hl, hP, hD, hS⟩ := hI
    have hl : lv_has ls 4 [(2, .int (nI i)), (1, .int (nI e1)), (0, .ref g)] := hl
    have hP : va_P (dC, dI) vwCl ([zob g 1 [.ref al, .int (nI gr), .int (nI gs), .int (nI bg), .int (nI r2), .int (nI ce)], zob al 2 [.ref ed, .int (nI n), .int mo], zrf ed cE cap a] ++ zcs n ad (zcf (zGw d i gs r2))) H := hP
    have hD : va_D A ([zob g 1 [.ref al, .int (nI gr), .int (nI gs), .int (nI bg), .int (nI r2), .int (nI ce)], zob al 2 [.ref ed, .int (nI n), .int mo], zrf ed cE cap a] ++ zcs n ad (zcf (zGw d i gs r2))) := hD
    refine lv_iload_n hx hb dGR_extendGroupTo_14 rfl (lv_at hl 0 rfl) ?_
    refine lv_aload_n hx hb dGR_extendGroupTo_15 rfl (lv_at hl 2 rfl) ?_
    refine va_get (D := (dC, dI)) (ci := 1) (v := .ref al) (C := RGR) (T := TGR) (N := 6) hx hb hz in_GR hown hK hP 0 rfl rfl 0 (by decide) (hz _ wd_85) (fun _ h9 => h9) rfl dGR_extendGroupTo_16 ?_
    refine vp_callSi (W.runV (As := []) (rest := [.int (nI i)]) ⟨hx, hb, hml, hown, hz⟩ (f_AL_size l dC dI al ed mo n ) (cwV 0 hz (z_gV wd_192 wd_193 wd_194 wd_33 wd_195) rfl rfl rfl (by decide +kernel) ⟨Nat.le_of_ble_eq_true rfl, Nat.le_of_ble_eq_true rfl⟩) (zr_preV hK (hP.sub [1] rfl) (va_recv (q0 := 1) hK hP (q := (RAL, TAL, 3)) rfl rfl) [] rfl z_true (fun _ _ _ => trivial)) rfl rfl hl.1 rfl (lv_room (Nat.le_of_ble_eq_true rfl)) dGR_extendGroupTo_19 ⟨Nat.le_of_ble_eq_true rfl, Nat.le_of_ble_eq_true rfl⟩) (fun r6 h_r6 => ?_)
    have h_r6 : r6 = nI n := h_r6
    subst h_r6
    have t7 := nI_toInt (n := i) (by omega)
    have t8 := nI_toInt (n := n) (by omega)
    refine lv_icmp_ge (tgt := 62) hx hb dGR_extendGroupTo_22 rfl (fun h => by have h := z_le h; omega) (fun _ => ?_)
    refine lv_aload_n hx hb dGR_extendGroupTo_25 rfl (lv_at hl 2 rfl) ?_
    refine va_get (D := (dC, dI)) (ci := 1) (v := .ref al) (C := RGR) (T := TGR) (N := 6) hx hb hz in_GR hown hK hP 0 rfl rfl 0 (by decide) (hz _ wd_85) (fun _ h9 => h9) rfl dGR_extendGroupTo_26 ?_
    refine lv_iload_n hx hb dGR_extendGroupTo_29 rfl (lv_at hl 0 rfl) ?_
    refine va_csr (W.runV (As := [.int (nI i)]) (rest := []) ⟨hx, hb, hml, hown, hz⟩ (f_AL_get l dC dI al ed cE cap a mo n i (ad i) (by omega) (by omega) (by omega) (ha _ (by omega))) (cwV 1 hz (z_gV wd_196 wd_197 wd_198 wd_33 wd_199) rfl rfl rfl (by decide +kernel) ⟨Nat.le_of_ble_eq_true rfl, Nat.le_of_ble_eq_true rfl⟩) (zr_preV hK (hP.sub [1, 2] rfl) (va_recv (q0 := 1) hK hP (q := (RAL, TAL, 3)) rfl rfl) [0] rfl z_true (fun _ _ _ => trivial)) rfl rfl hl.1 rfl (lv_room (Nat.le_of_ble_eq_true rfl)) dGR_extendGroupTo_30 ⟨Nat.le_of_ble_eq_true rfl, Nat.le_of_ble_eq_true rfl⟩) (fun r9 h_r9 => ?_)
    have h_r9 : r9 = (ad i) := h_r9
    subst h_r9
    refine va_castE hx hb hown (hz _ wd_210) (va_recv hK hP (q := (RCE, TCE, 10)) rfl (zcs_get rfl (by omega))) dGR_extendGroupTo_33 ?_
    refine lv_astore_n hx hb dGR_extendGroupTo_36 rfl hl (Nat.le_of_ble_eq_true rfl) rfl (fun ls hl => ?_)
    have hl : lv_has ls 4 [(3, .ref (ad i)), (2, .int (nI i)), (1, .int (nI e1)), (0, .ref g)] := hl
    refine lv_aload_n hx hb dGR_extendGroupTo_37 rfl (lv_at hl 0 rfl) ?_
    refine va_get (D := (dC, dI)) (ci := 7) (v := .int (nI (zGw d i gs r2 1 i))) (C := RCE) (T := TCE) (N := 10) hx hb hz in_CE hown hK hP (3 + i) (zcs_get rfl (by omega)) rfl 1 (by decide) (hz _ wd_258) (fun _ h9 => h9) rfl dGR_extendGroupTo_38 ?_
    refine lv_topi (fun x10 e11 => ?_)
    have e11 : x10 = nI (d 1 i) := e11.trans (by rw [zGw_n (fun h => absurd h.1 (by decide))])
    subst e11
    refine lv_aload_n hx hb dGR_extendGroupTo_41 rfl (lv_at hl 3 rfl) ?_
    refine va_get (D := (dC, dI)) (ci := 1) (v := .int (nI gs)) (C := RGR) (T := TGR) (N := 6) hx hb hz in_GR hown hK hP 0 rfl rfl 2 (by decide) (hz _ wd_87) (fun _ h9 => h9) rfl dGR_extendGroupTo_42 ?_
    have t12 := hd 1 i (by omega)
    have t13 := nI_toInt (n := d 1 i) (by omega)
    have t14 := nI_toInt (n := gs) (by omega)
    refine lv_icmp_lt (tgt := 56) hx hb dGR_extendGroupTo_45 rfl (fun h_t => ?_) (fun h_t => ?_)
    · have h_t := z_lt h_t
      refine lv_iinc (k := 1) (v := nI (i + 1)) hx hb dGR_extendGroupTo_56 hl rfl (by rw [show Int32.ofInt 1 = nI 1 from by decide]; exact nI_add _ _) (Nat.le_of_ble_eq_true rfl) rfl (fun ls hl => ?_)
      have hl : lv_has ls 4 [(2, .int (nI (i + 1))), (3, .ref (ad i)), (1, .int (nI e1)), (0, .ref g)] := hl
      refine lv_goto (tgt := 14) hx hb dGR_extendGroupTo_59 rfl ?_
      rw [← zGw_keep (i := i) (by omega)] at hP hD
      exact ih () ls H locs ⟨lv_sub hl [0, 2, 3] rfl, hP, hD, hS⟩
    · have h_t := z_nlt h_t
      refine lv_aload_n hx hb dGR_extendGroupTo_48 rfl (lv_at hl 0 rfl) ?_
      refine lv_aload_n hx hb dGR_extendGroupTo_49 rfl (lv_at hl 3 rfl) ?_
      refine va_get (D := (dC, dI)) (ci := 1) (v := .int (nI r2)) (C := RGR) (T := TGR) (N := 6) hx hb hz in_GR hown hK hP 0 rfl rfl 4 (by decide) (hz _ wd_89) (fun _ h9 => h9) rfl dGR_extendGroupTo_50 ?_
      refine zw_call1v hK hP hD hS hA (zcs_get rfl (by omega)) (va_runV (As := [.int (nI r2)]) (rest := []) ⟨hx, hb, hml, hown, hz⟩ ((f_CE_growTo l dC dI (ad i) (zGw d i gs r2 0 i) (zGw d i gs r2 1 i) (zGw d i gs r2 2 i) (zGw d i gs r2 3 i) (zGw d i gs r2 4 i) (zGw d i gs r2 5 i) (zGw d i gs r2 6 i) (zGw d i gs r2 7 i) (zGw d i gs r2 8 i) (zGw d i gs r2 9 i) r2 (by rw [zGw_n (fun h => absurd h.1 (by decide)), zGw_n (fun h => absurd h.1 (by decide))]; have := hd 6 i hi; have := ht i hi; rw [← h2] at this; omega)) H.size) (cwV 1 hz (z_gV wd_211 wd_212 wd_213 wd_41 wd_214) rfl rfl rfl (by decide +kernel) ⟨Nat.le_of_ble_eq_true rfl, Nat.le_of_ble_eq_true rfl⟩) (z_pre1 hK hP (zcs_get rfl (by omega)) rfl z_true (fun _ _ _ => trivial)) rfl rfl hl.1 rfl (lv_room (Nat.le_of_ble_eq_true rfl)) dGR_extendGroupTo_53 ⟨Nat.le_of_ble_eq_true rfl, Nat.le_of_ble_eq_true rfl⟩) (fun u H locs h_rg hP hD hS => ?_)
      obtain ⟨f72, rfl⟩ : ∃ z, z = u := ⟨_, rfl⟩
      rw [zcs_set' rfl (by omega)] at hP hD
      have e_z : va_up (zcf (zGw d i gs r2)) i ((zcf (zGw d i gs r2) i).set 7 (.int (nI f72))) = zcf (zup (zGw d i gs r2) 7 i f72) := zcf_up 7 (by omega)
      have hP : va_P (dC, dI) vwCl ([zob g 1 [.ref al, .int (nI gr), .int (nI gs), .int (nI bg), .int (nI r2), .int (nI ce)], zob al 2 [.ref ed, .int (nI n), .int mo], zrf ed cE cap a] ++ zcs n ad (zcf (zup (zGw d i gs r2) 7 i f72))) H := by rw [← e_z]; exact hP
      have hD : va_D A ([zob g 1 [.ref al, .int (nI gr), .int (nI gs), .int (nI bg), .int (nI r2), .int (nI ce)], zob al 2 [.ref ed, .int (nI n), .int mo], zrf ed cE cap a] ++ zcs n ad (zcf (zup (zGw d i gs r2) 7 i f72))) := by rw [← e_z]; exact hD
      have h_rg : f72 = if (zGw d i gs r2 6 i) = 0 then (zGw d i gs r2 7 i) else r2 - (zGw d i gs r2 1 i) := h_rg
      refine lv_iinc (k := 1) (v := nI (i + 1)) hx hb dGR_extendGroupTo_56 hl rfl (by rw [show Int32.ofInt 1 = nI 1 from by decide]; exact nI_add _ _) (Nat.le_of_ble_eq_true rfl) rfl (fun ls hl => ?_)
      have hl : lv_has ls 4 [(2, .int (nI (i + 1))), (3, .ref (ad i)), (1, .int (nI e1)), (0, .ref g)] := hl
      refine lv_goto (tgt := 14) hx hb dGR_extendGroupTo_59 rfl ?_
      rw [z_grow (re := r2) (by omega) (by rw [h_rg, zGw_n (fun h => absurd h.1 (by decide)), zGw_n (fun h => absurd h.2.1 (by omega)), zGw_n (fun h => absurd h.1 (by decide))]) (zGw_n (fun h => absurd h.2.1 (by omega)))] at hP hD
      exact ih () ls H locs ⟨lv_sub hl [0, 2, 3] rfl, hP, hD, hS⟩

set_option maxHeartbeats 4000000 in
set_option maxRecDepth 100000 in
theorem f_GR_beginRow (l : Launch) (dC : Nat → ClassId) (dI : Nat → Nat → Nat) (g : Nat) (gr : Nat) (gs : Nat) (bg : Nat) (re : Nat) (ce : Nat) (al : Nat) (ed : Nat) (cE : ClassId) (cap : Nat) (a : Nat → Option Nat) (mo : Int32) (n : Nat) (ad : Nat → Nat) (d : Nat → Nat → Nat) (hn : n ≤ cap) (hc : cap < 2147483648) (ha : ∀ k, k < n → a k = some (ad k)) (hd : ∀ j k, k < n → d j k ≤ 1000) (hg : gr ≤ 1000 ∧ gs ≤ 1000 ∧ bg ≤ 1000 ∧ re ≤ 1000 ∧ ce ≤ 1000) (ht : ∀ k, k < n → d 1 k ≤ re) : zw_Mi (S := (Nat) × (Nat) × (Nat → Nat → Nat)) l yGR_beginRow wGR_beginRow ({ frames := 4, cells := 0, slots := 0, locals := 87 }) [.ref g] (dC, dI) vwCl ([zob g 1 [.ref al, .int (nI gr), .int (nI gs), .int (nI bg), .int (nI re), .int (nI ce)], zob al 2 [.ref ed, .int (nI n), .int mo], zrf ed cE cap a] ++ zcs n ad (zcf d)) [(cE, .object "java/lang/Object")] (fun _ _ => True) (fun r u => match u with | (bg2, re2, d2) => (11 < gs + bg ∧ r = -1 ∧ bg2 = bg ∧ re2 = re ∧ d2 = d) ∨ (¬ 11 < gs + bg ∧ r = nI (gs + bg) ∧ bg2 = bg + 1 ∧ re2 = (if re < gs + bg + 1 then gs + bg + 1 else re) ∧ d2 = zGw d n gs re2)) (fun u => match u with | (bg2, re2, d2) => ([zob g 1 [.ref al, .int (nI gr), .int (nI gs), .int (nI bg2), .int (nI re2), .int (nI ce)], zob al 2 [.ref ed, .int (nI n), .int mo], zrf ed cE cap a] ++ zcs n ad (zcf d2))) (fun u => match u with | (bg2, re2, d2) => []) 0 0 := by
  refine zw_headi (cc := cGR_beginRow) (maxL := 2) (ret := (some .int)) (by decide +kernel) rfl (Nat.le_of_ble_eq_true rfl) ?_
  intro p e s m below meth c ls A F hA hP hK hD hS hX hl
  obtain ⟨hx, hb, hml, hr, hlocks, hown, hts⟩ := F
  have hown : s.vm.findClass "SpannedCells$Grid" = some m.cls := hown
  have hz : ∀ w9 ∈ zT, w9.before [.ref g].toArray s = true := fun w9 h => hts w9 (List.mem_cons_of_mem _ h)
  have hl : lv_has ls 2 [(0, .ref g)] := hl
  refine z_q (fun Q hQ => ?_)
  refine lv_aload_n hx hb dGR_beginRow_0 rfl (lv_at hl 0 rfl) ?_
  refine va_get (D := (dC, dI)) (ci := 1) (v := .int (nI gs)) (C := RGR) (T := TGR) (N := 6) hx hb hz in_GR hown hK hP 0 rfl rfl 2 (by decide) (hz _ wd_87) (fun _ h9 => h9) rfl dGR_beginRow_1 ?_
  refine lv_aload_n hx hb dGR_beginRow_4 rfl (lv_at hl 0 rfl) ?_
  refine va_get (D := (dC, dI)) (ci := 1) (v := .int (nI bg)) (C := RGR) (T := TGR) (N := 6) hx hb hz in_GR hown hK hP 0 rfl rfl 3 (by decide) (hz _ wd_88) (fun _ h9 => h9) rfl dGR_beginRow_5 ?_
  refine lv_iadd hx hb dGR_beginRow_8 ?_
  refine lv_topi (fun x1 e2 => ?_)
  have e2 : x1 = nI (gs + bg) := e2.trans (nI_add _ _)
  subst e2
  refine lv_istore_n hx hb dGR_beginRow_9 rfl hl (Nat.le_of_ble_eq_true rfl) rfl (fun ls hl => ?_)
  have hl : lv_has ls 2 [(1, .int (nI (gs + bg))), (0, .ref g)] := hl
  refine lv_iload_n hx hb dGR_beginRow_10 rfl (lv_at hl 0 rfl) ?_
  refine lv_bipush (v := nI 12) hx hb dGR_beginRow_11 (by decide) ?_
  have t3 := nI_toInt (n := gs + bg) (by omega)
  have t4 := nI_toInt (n := 12) (by omega)
  refine lv_icmp_lt (tgt := 18) hx hb dGR_beginRow_13 rfl (fun h1 => ?_) (fun h1 => ?_)
  · have h1 := z_lt h1
    refine lv_aload_n hx hb dGR_beginRow_18 rfl (lv_at hl 1 rfl) ?_
    refine lv_dup hx hb dGR_beginRow_19 rfl ?_
    refine va_get (D := (dC, dI)) (ci := 1) (v := .int (nI bg)) (C := RGR) (T := TGR) (N := 6) hx hb hz in_GR hown hK hP 0 rfl rfl 3 (by decide) (hz _ wd_88) (fun _ h9 => h9) rfl dGR_beginRow_20 ?_
    refine lv_iconst (v := nI 1) hx hb dGR_beginRow_23 (by decide) ?_
    refine lv_iadd hx hb dGR_beginRow_24 ?_
    refine lv_topi (fun x6 e7 => ?_)
    have e7 : x6 = nI (bg + 1) := e7.trans (nI_add _ _)
    subst e7
    refine va_put (D := (dC, dI)) (ci := 1) (v := .int (nI (bg + 1))) (ty := .int) (C := RGR) (T := TGR) (N := 6) hx hb hz in_GR tyGR tokGR nokGR hown hK hP hD hS 0 rfl rfl 3 (by decide) (hz _ wd_88) (fun _ h9 => h9) rfl (by decide +kernel) rfl rfl (Nat.le_of_ble_eq_true rfl) dGR_beginRow_25 (fun H locs hP hD hS => ?_)
    have hP : va_P (dC, dI) vwCl ([zob g 1 [.ref al, .int (nI gr), .int (nI gs), .int (nI (bg + 1)), .int (nI re), .int (nI ce)], zob al 2 [.ref ed, .int (nI n), .int mo], zrf ed cE cap a] ++ zcs n ad (zcf d)) H := hP
    have hD : va_D A ([zob g 1 [.ref al, .int (nI gr), .int (nI gs), .int (nI (bg + 1)), .int (nI re), .int (nI ce)], zob al 2 [.ref ed, .int (nI n), .int mo], zrf ed cE cap a] ++ zcs n ad (zcf d)) := hD
    refine lv_aload_n hx hb dGR_beginRow_28 rfl (lv_at hl 1 rfl) ?_
    refine lv_iload_n hx hb dGR_beginRow_29 rfl (lv_at hl 0 rfl) ?_
    refine lv_iconst (v := nI 1) hx hb dGR_beginRow_30 (by decide) ?_
    refine lv_iadd hx hb dGR_beginRow_31 ?_
    refine lv_topi (fun x8 e9 => ?_)
    have e9 : x8 = nI ((gs + bg) + 1) := e9.trans (nI_add _ _)
    subst e9
    refine zw_callTv (wr := []) hK hP hD hS hA [0, 1, 2] [] rfl rfl (by decide) (by decide) (va_runV (As := [.int (nI ((gs + bg) + 1))]) (rest := []) ⟨hx, hb, hml, hown, hz⟩ ((f_GR_extendGroupTo l dC dI g gr gs (bg + 1) re ce al ed cE cap a mo n ad d ((gs + bg) + 1) (if re < gs + bg + 1 then gs + bg + 1 else re) (by omega) (by omega) (ha) (hd) (by omega) (by omega) (fun k hk => by have := ht k hk; split <;> omega) (rfl)) H.size) (cwV 1 hz (z_gV wd_185 wd_187 wd_0 wd_30 wd_188) rfl rfl rfl (by decide +kernel) ⟨Nat.le_of_ble_eq_true rfl, Nat.le_of_ble_eq_true rfl⟩) (zw_preVT hK hP hD (va_recv (q0 := 0) hK hP (q := (RGR, TGR, 6)) rfl rfl) [0, 1, 2] (by decide) rfl [0] rfl z_true (fun _ _ _ => trivial)) rfl rfl hl.1 rfl (lv_room (Nat.le_of_ble_eq_true rfl)) dGR_beginRow_32 ⟨Nat.le_of_ble_eq_true rfl, Nat.le_of_ble_eq_true rfl⟩) (fun u H locs h_r10 hP hD hK hS => ?_)
    have hP : va_P (dC, dI) vwCl ([zob g 1 [.ref al, .int (nI gr), .int (nI gs), .int (nI (bg + 1)), .int (nI (if re < gs + bg + 1 then gs + bg + 1 else re)), .int (nI ce)], zob al 2 [.ref ed, .int (nI n), .int mo], zrf ed cE cap a] ++ zcs n ad (zcf (zGw d n gs (if re < gs + bg + 1 then gs + bg + 1 else re)))) H := zt_sub hP [0, 1, 2] rfl
    have hD : va_D A ([zob g 1 [.ref al, .int (nI gr), .int (nI gs), .int (nI (bg + 1)), .int (nI (if re < gs + bg + 1 then gs + bg + 1 else re)), .int (nI ce)], zob al 2 [.ref ed, .int (nI n), .int mo], zrf ed cE cap a] ++ zcs n ad (zcf (zGw d n gs (if re < gs + bg + 1 then gs + bg + 1 else re)))) := zt_subD hD [0, 1, 2] (by decide) rfl
    have hK : va_K (dC, dI) vwCl [(cE, .object "java/lang/Object")] s := hK
    refine lv_iload_n hx hb dGR_beginRow_35 rfl (lv_at hl 0 rfl) ?_
    subst hQ
    exact zw_iret (D := (dC, dI)) (cl := vwCl) (A := A) (bg + 1, (if re < gs + bg + 1 then gs + bg + 1 else re), zGw d n gs (if re < gs + bg + 1 then gs + bg + 1 else re)) hx hb hr hlocks (Or.inr ⟨by omega, rfl, rfl, rfl, rfl⟩) (zt_sub hP [0, 1, 2] rfl) (hK.sub [] rfl) (zt_subD hD [0, 1, 2] (by decide) rfl) hS dGR_beginRow_36
  · have h1 := z_nlt h1
    refine lv_iconst (v := (-1)) hx hb dGR_beginRow_16 (by decide) ?_
    subst hQ
    exact zw_iret (D := (dC, dI)) (cl := vwCl) (A := A) (bg, re, d) hx hb hr hlocks (Or.inl ⟨by omega, rfl, rfl, rfl, rfl⟩) (zt_sub hP [0, 1, 2] rfl) (hK.sub [] rfl) (zt_subD hD [0, 1, 2] (by decide) rfl) hS dGR_beginRow_17

set_option maxHeartbeats 4000000 in
set_option maxRecDepth 100000 in
theorem f_SC_row (l : Launch) (dC : Nat → ClassId) (dI : Nat → Nat → Nat) (h0 : Nat) (wd : Nat) (hh : Nat) (sp : Nat) (gp : Nat) (fx : Nat) (g : Nat) (gr : Nat) (gs : Nat) (bg : Nat) (re : Nat) (ce : Nat) (al : Nat) (ed : Nat) (cE : ClassId) (cap : Nat) (a : Nat → Option Nat) (mo : Int32) (n : Nat) (ad : Nat → Nat) (d : Nat → Nat → Nat) (hn : n ≤ cap) (hc : cap < 2147483648) (ha : ∀ k, k < n → a k = some (ad k)) (hd : ∀ j k, k < n → d j k ≤ 1000) (hg : gr ≤ 1000 ∧ gs ≤ 1000 ∧ bg ≤ 1000 ∧ re ≤ 1000 ∧ ce ≤ 1000) (ht : ∀ k, k < n → d 1 k ≤ re) : zw_Mi (S := (Nat) × (Nat) × (Nat → Nat → Nat)) l ySC_row wSC_row ({ frames := 5, cells := 0, slots := 0, locals := 108 }) [.ref h0] (dC, dI) vwCl ([zob h0 0 [.ref g, .ref wd, .ref hh, .int (nI sp), .int (nI gp), .int (nI fx)], zob g 1 [.ref al, .int (nI gr), .int (nI gs), .int (nI bg), .int (nI re), .int (nI ce)], zob al 2 [.ref ed, .int (nI n), .int mo], zrf ed cE cap a] ++ zcs n ad (zcf d)) [(cE, .object "java/lang/Object")] (fun _ _ => True) (fun r u => match u with | (bg2, re2, d2) => (11 < gs + bg ∧ r = -1 ∧ bg2 = bg ∧ re2 = re ∧ d2 = d) ∨ (¬ 11 < gs + bg ∧ r = nI (gs + bg) ∧ bg2 = bg + 1 ∧ re2 = (if re < gs + bg + 1 then gs + bg + 1 else re) ∧ d2 = zGw d n gs re2)) (fun u => match u with | (bg2, re2, d2) => ([zob h0 0 [.ref g, .ref wd, .ref hh, .int (nI sp), .int (nI gp), .int (nI fx)], zob g 1 [.ref al, .int (nI gr), .int (nI gs), .int (nI bg2), .int (nI re2), .int (nI ce)], zob al 2 [.ref ed, .int (nI n), .int mo], zrf ed cE cap a] ++ zcs n ad (zcf d2))) (fun u => match u with | (bg2, re2, d2) => []) 0 0 := by
  refine zw_headi (cc := cSC_row) (maxL := 1) (ret := (some .int)) (by decide +kernel) rfl (Nat.le_of_ble_eq_true rfl) ?_
  intro p e s m below meth c ls A F hA hP hK hD hS hX hl
  obtain ⟨hx, hb, hml, hr, hlocks, hown, hts⟩ := F
  have hown : s.vm.findClass "SpannedCells" = some m.cls := hown
  have hz : ∀ w9 ∈ zT, w9.before [.ref h0].toArray s = true := fun w9 h => hts w9 (List.mem_cons_of_mem _ h)
  have hl : lv_has ls 1 [(0, .ref h0)] := hl
  refine z_q (fun Q hQ => ?_)
  refine lv_aload_n hx hb dSC_row_0 rfl (lv_at hl 0 rfl) ?_
  refine va_get (D := (dC, dI)) (ci := 0) (v := .ref g) (C := RSC) (T := TSC) (N := 6) hx hb hz in_SC hown hK hP 0 rfl rfl 0 (by decide) (hz _ wd_150) (fun _ h9 => h9) rfl dSC_row_1 ?_
  refine zw_callTi (wr := [zob h0 0 [.ref g, .ref wd, .ref hh, .int (nI sp), .int (nI gp), .int (nI fx)]]) hK hP hD hS hA [1, 2, 3] [0] rfl rfl (by decide) (by decide) (va_runV (As := []) (rest := []) ⟨hx, hb, hml, hown, hz⟩ ((f_GR_beginRow l dC dI g gr gs bg re ce al ed cE cap a mo n ad d (by omega) (by omega) (ha) (hd) (hg) (ht)) s.heap.size) (cwV 0 hz (z_gV wd_181 wd_182 wd_183 wd_30 wd_184) rfl rfl rfl (by decide +kernel) ⟨Nat.le_of_ble_eq_true rfl, Nat.le_of_ble_eq_true rfl⟩) (zw_preVT hK hP hD (va_recv (q0 := 1) hK hP (q := (RGR, TGR, 6)) rfl rfl) [1, 2, 3] (by decide) rfl [0] rfl z_true (fun _ _ _ => trivial)) rfl rfl hl.1 rfl (lv_room (Nat.le_of_ble_eq_true rfl)) dSC_row_4 ⟨Nat.le_of_ble_eq_true rfl, Nat.le_of_ble_eq_true rfl⟩) (fun rr u H locs h_rr hP hD hK hS => ?_)
  obtain ⟨x1, x2, x3⟩ := u
  have hP : va_P (dC, dI) vwCl ([zob h0 0 [.ref g, .ref wd, .ref hh, .int (nI sp), .int (nI gp), .int (nI fx)], zob g 1 [.ref al, .int (nI gr), .int (nI gs), .int (nI x1), .int (nI x2), .int (nI ce)], zob al 2 [.ref ed, .int (nI n), .int mo], zrf ed cE cap a] ++ zcs n ad (zcf x3)) H := zt_sub hP [0, 1, 2, 3] rfl
  have hD : va_D A ([zob h0 0 [.ref g, .ref wd, .ref hh, .int (nI sp), .int (nI gp), .int (nI fx)], zob g 1 [.ref al, .int (nI gr), .int (nI gs), .int (nI x1), .int (nI x2), .int (nI ce)], zob al 2 [.ref ed, .int (nI n), .int mo], zrf ed cE cap a] ++ zcs n ad (zcf x3)) := zt_subD hD [0, 1, 2, 3] (by decide) rfl
  have hK : va_K (dC, dI) vwCl [(cE, .object "java/lang/Object")] s := hK
  have h_rr : (11 < gs + bg ∧ rr = -1 ∧ x1 = bg ∧ x2 = re ∧ x3 = d) ∨ (¬ 11 < gs + bg ∧ rr = nI (gs + bg) ∧ x1 = bg + 1 ∧ x2 = (if re < gs + bg + 1 then gs + bg + 1 else re) ∧ x3 = zGw d n gs x2) := h_rr
  subst hQ
  exact zw_iret (D := (dC, dI)) (cl := vwCl) (A := A) (x1, x2, x3) hx hb hr hlocks (h_rr) (zt_sub hP [0, 1, 2, 3] rfl) (hK.sub [] rfl) (zt_subD hD [0, 1, 2, 3] (by decide) rfl) hS dSC_row_7

set_option maxHeartbeats 4000000 in
set_option maxRecDepth 100000 in
theorem f_SC_border (l : Launch) (dC : Nat → ClassId) (dI : Nat → Nat → Nat) (h0 : Nat) (wd : Nat) (hh : Nat) (sp : Nat) (gp : Nat) (fx : Nat) (g : Nat) (gr : Nat) (gs : Nat) (bg : Nat) (re : Nat) (ce : Nat) (al : Nat) (ed : Nat) (cE : ClassId) (cap : Nat) (a : Nat → Option Nat) (mo : Int32) (n : Nat) (ad : Nat → Nat) (d : Nat → Nat → Nat) (k : Int32) (t : Int32) (w : Int32) (hn : n ≤ cap) (hc : cap < 2147483648) (ha : ∀ k, k < n → a k = some (ad k)) (hd : ∀ j k, k < n → d j k ≤ 1000) (hg : gr ≤ 1000 ∧ gs ≤ 1000 ∧ bg ≤ 1000 ∧ re ≤ 1000 ∧ ce ≤ 1000) : zw_Mi (S := (Nat → Nat → Nat)) l ySC_border wSC_border ({ frames := 4, cells := 0, slots := 0, locals := 85 }) [.ref h0, .int k, .int t, .int w] (dC, dI) vwCl ([zob h0 0 [.ref g, .ref wd, .ref hh, .int (nI sp), .int (nI gp), .int (nI fx)], zob g 1 [.ref al, .int (nI gr), .int (nI gs), .int (nI bg), .int (nI re), .int (nI ce)], zob al 2 [.ref ed, .int (nI n), .int mo], zrf ed cE cap a] ++ zcs n ad (zcf d)) [(cE, .object "java/lang/Object")] (fun _ _ => True) (fun r (d2 : Nat → Nat → Nat) => (¬ ((0 ≤ k.toInt ∧ k.toInt < n) ∧ (0 ≤ t.toInt ∧ t.toInt ≤ 9) ∧ (0 ≤ w.toInt ∧ w.toInt ≤ 4)) ∧ r = 0 ∧ d2 = d) ∨ ∃ k1 t1 w1, k1 < n ∧ t1 ≤ 9 ∧ w1 ≤ 4 ∧ k = nI k1 ∧ t = nI t1 ∧ w = nI w1 ∧ r = 1 ∧ d2 = zup (zup d 8 k1 t1) 9 k1 w1) (fun (d2 : Nat → Nat → Nat) => ([zob h0 0 [.ref g, .ref wd, .ref hh, .int (nI sp), .int (nI gp), .int (nI fx)], zob g 1 [.ref al, .int (nI gr), .int (nI gs), .int (nI bg), .int (nI re), .int (nI ce)], zob al 2 [.ref ed, .int (nI n), .int mo], zrf ed cE cap a] ++ zcs n ad (zcf d2))) (fun (d2 : Nat → Nat → Nat) => []) 0 0 := by
  refine zw_headi (cc := cSC_border) (maxL := 4) (ret := (some .boolean)) (by decide +kernel) rfl (Nat.le_of_ble_eq_true rfl) ?_
  intro p e s m below meth c ls A F hA hP hK hD hS hX hl
  obtain ⟨hx, hb, hml, hr, hlocks, hown, hts⟩ := F
  have hown : s.vm.findClass "SpannedCells" = some m.cls := hown
  have hz : ∀ w9 ∈ zT, w9.before [.ref h0, .int k, .int t, .int w].toArray s = true := fun w9 h => hts w9 (List.mem_cons_of_mem _ h)
  have hl : lv_has ls 4 [(0, .ref h0), (1, .int k), (2, .int t), (3, .int w)] := hl
  refine z_q (fun Q hQ => ?_)
  refine lv_aload_n hx hb dSC_border_0 rfl (lv_at hl 0 rfl) ?_
  refine va_get (D := (dC, dI)) (ci := 0) (v := .ref g) (C := RSC) (T := TSC) (N := 6) hx hb hz in_SC hown hK hP 0 rfl rfl 0 (by decide) (hz _ wd_150) (fun _ h9 => h9) rfl dSC_border_1 ?_
  refine lv_iload_n hx hb dSC_border_4 rfl (lv_at hl 1 rfl) ?_
  refine vp_callSi (W.runV (As := [.int k]) (rest := []) ⟨hx, hb, hml, hown, hz⟩ (f_GR_hasCell l dC dI g gr gs bg re ce al ed cE cap a mo n ad d k (by omega) (by omega) (ha) (hd) (hg)) (cwV 1 hz (z_gV wd_355 wd_356 wd_357 wd_30 wd_358) rfl rfl rfl (by decide +kernel) ⟨Nat.le_of_ble_eq_true rfl, Nat.le_of_ble_eq_true rfl⟩) (zr_preV hK (zt_sub hP [1, 2, 3] rfl) (va_recv (q0 := 1) hK hP (q := (RGR, TGR, 6)) rfl rfl) [0] rfl z_true (fun _ _ _ => trivial)) rfl rfl hl.1 rfl (lv_room (Nat.le_of_ble_eq_true rfl)) dSC_border_5 ⟨Nat.le_of_ble_eq_true rfl, Nat.le_of_ble_eq_true rfl⟩) (fun ra h_ra => ?_)
  have h_ra : z_yn ra (0 ≤ k.toInt ∧ k.toInt < n) := h_ra
  refine lv_if_eq (tgt := 30) hx hb dSC_border_8 rfl (fun h_b => ?_) (fun h_b => ?_)
  · have h_b := z_yF h_ra h_b
    refine lv_iconst (v := nI 0) hx hb dSC_border_30 (by decide) ?_
    subst hQ
    exact zw_zret (D := (dC, dI)) (cl := vwCl) (A := A) d hx hb hr hlocks (Or.inl rfl) (Or.inl ⟨fun h9 => h_b h9.1, rfl, rfl⟩) (zt_sub hP [0, 1, 2, 3] rfl) (hK.sub [] rfl) (zt_subD hD [0, 1, 2, 3] (by decide) rfl) hS dSC_border_31
  · have h_b := z_yT h_ra h_b
    have h_a := h_b
    refine lv_iload_n hx hb dSC_border_11 rfl (lv_at hl 2 rfl) ?_
    refine lv_iconst (v := nI 0) hx hb dSC_border_12 (by decide) ?_
    refine lv_bipush (v := nI 9) hx hb dSC_border_13 (by decide) ?_
    refine vp_callSi (W.runS (As := [.int t, .int (nI 0), .int (nI 9)]) (rest := []) ⟨hx, hb, hml, hown, hz⟩ (f_SC_within l dC dI t (nI 0) (nI 9) ) (va_cwS 3 hz (z_gS wd_219 wd_220 wd_29 wd_221) rfl rfl rfl (by decide +kernel) ⟨Nat.le_of_ble_eq_true rfl, Nat.le_of_ble_eq_true rfl⟩) (zr_preS hK (hP.sub [] rfl) [] rfl z_true (fun _ _ _ => trivial)) rfl rfl hl.1 rfl (lv_room (Nat.le_of_ble_eq_true rfl)) dSC_border_15 ⟨Nat.le_of_ble_eq_true rfl, Nat.le_of_ble_eq_true rfl⟩) (fun rb h_rb => ?_)
    have h_rb : z_yn rb ((nI 0).toInt ≤ t.toInt ∧ t.toInt ≤ (nI 9).toInt) := h_rb
    have t_0 := nI_toInt (n := 0) (by omega)
    have t_9 := nI_toInt (n := 9) (by omega)
    refine lv_if_eq (tgt := 30) hx hb dSC_border_18 rfl (fun h_c => ?_) (fun h_c => ?_)
    · have h_c := z_yF h_rb h_c
      refine lv_iconst (v := nI 0) hx hb dSC_border_30 (by decide) ?_
      subst hQ
      exact zw_zret (D := (dC, dI)) (cl := vwCl) (A := A) d hx hb hr hlocks (Or.inl rfl) (Or.inl ⟨by omega, rfl, rfl⟩) (zt_sub hP [0, 1, 2, 3] rfl) (hK.sub [] rfl) (zt_subD hD [0, 1, 2, 3] (by decide) rfl) hS dSC_border_31
    · have h_c := z_yT h_rb h_c
      refine lv_iload_n hx hb dSC_border_21 rfl (lv_at hl 3 rfl) ?_
      refine lv_iconst (v := nI 0) hx hb dSC_border_22 (by decide) ?_
      refine lv_iconst (v := nI 4) hx hb dSC_border_23 (by decide) ?_
      refine vp_callSi (W.runS (As := [.int w, .int (nI 0), .int (nI 4)]) (rest := []) ⟨hx, hb, hml, hown, hz⟩ (f_SC_within l dC dI w (nI 0) (nI 4) ) (va_cwS 3 hz (z_gS wd_219 wd_220 wd_29 wd_221) rfl rfl rfl (by decide +kernel) ⟨Nat.le_of_ble_eq_true rfl, Nat.le_of_ble_eq_true rfl⟩) (zr_preS hK (hP.sub [] rfl) [] rfl z_true (fun _ _ _ => trivial)) rfl rfl hl.1 rfl (lv_room (Nat.le_of_ble_eq_true rfl)) dSC_border_24 ⟨Nat.le_of_ble_eq_true rfl, Nat.le_of_ble_eq_true rfl⟩) (fun rc h_rc => ?_)
      have h_rc : z_yn rc ((nI 0).toInt ≤ w.toInt ∧ w.toInt ≤ (nI 4).toInt) := h_rc
      have t_4 := nI_toInt (n := 4) (by omega)
      refine lv_if_ne (tgt := 32) hx hb dSC_border_27 rfl (fun h_d => ?_) (fun h_d => ?_)
      · have h_d := z_yT h_rc h_d
        obtain ⟨k1, hk1, rfl⟩ := z_ofIn (c := k) h_a.1 h_a.2 (by omega)
        obtain ⟨t1, ht1, rfl⟩ := z_ofIn (c := t) (n := 10) (by omega) (by omega) (by omega)
        obtain ⟨w1, hw1, rfl⟩ := z_ofIn (c := w) (n := 5) (by omega) (by omega) (by omega)
        refine lv_aload_n hx hb dSC_border_32 rfl (lv_at hl 0 rfl) ?_
        refine va_get (D := (dC, dI)) (ci := 0) (v := .ref g) (C := RSC) (T := TSC) (N := 6) hx hb hz in_SC hown hK hP 0 rfl rfl 0 (by decide) (hz _ wd_150) (fun _ h9 => h9) rfl dSC_border_33 ?_
        refine lv_iload_n hx hb dSC_border_36 rfl (lv_at hl 1 rfl) ?_
        refine va_csr (W.runV (As := [.int (nI k1)]) (rest := []) ⟨hx, hb, hml, hown, hz⟩ (f_GR_cellAt l dC dI g gr gs bg re ce al ed cE cap a mo n ad d k1 (by omega) (by omega) (ha) (hd) (hg) (by omega)) (cwV 1 hz (z_gV wd_359 wd_360 wd_361 wd_30 wd_362) rfl rfl rfl (by decide +kernel) ⟨Nat.le_of_ble_eq_true rfl, Nat.le_of_ble_eq_true rfl⟩) (zr_preV hK (zt_sub hP [1, 2, 3] rfl) (va_recv (q0 := 1) hK hP (q := (RGR, TGR, 6)) rfl rfl) [0] rfl z_true (fun _ _ _ => trivial)) rfl rfl hl.1 rfl (lv_room (Nat.le_of_ble_eq_true rfl)) dSC_border_37 ⟨Nat.le_of_ble_eq_true rfl, Nat.le_of_ble_eq_true rfl⟩) (fun r4 h_r4 => ?_)
        have h_r4 : r4 = ad k1 := h_r4
        subst h_r4
        refine lv_iload_n hx hb dSC_border_40 rfl (lv_at hl 2 rfl) ?_
        refine lv_iload_n hx hb dSC_border_41 rfl (lv_at hl 3 rfl) ?_
        refine zw_call1v hK hP hD hS hA (zcs_get rfl (by omega)) (va_runV (As := [.int (nI t1), .int (nI w1)]) (rest := []) ⟨hx, hb, hml, hown, hz⟩ ((f_CE_frame l dC dI (ad k1) (d 0 k1) (d 1 k1) (d 2 k1) (d 3 k1) (d 4 k1) (d 5 k1) (d 6 k1) (d 7 k1) (d 8 k1) (d 9 k1) t1 w1 ) s.heap.size) (cwV 2 hz (z_gV wd_363 wd_364 wd_365 wd_41 wd_366) rfl rfl rfl (by decide +kernel) ⟨Nat.le_of_ble_eq_true rfl, Nat.le_of_ble_eq_true rfl⟩) (z_pre1 hK hP (zcs_get rfl (by omega)) rfl z_true (fun _ _ _ => trivial)) rfl rfl hl.1 rfl (lv_room (Nat.le_of_ble_eq_true rfl)) dSC_border_42 ⟨Nat.le_of_ble_eq_true rfl, Nat.le_of_ble_eq_true rfl⟩) (fun u H locs h_r5 hP hD hS => ?_)
        rw [zcs_set' rfl (by omega)] at hP hD
        have e_z : va_up (zcf d) k1 (((zcf d k1).set 8 (.int (nI t1))).set 9 (.int (nI w1))) = zcf (zup (zup d 8 k1 t1) 9 k1 w1) := zcf_up2 8 9 (by omega) (by omega)
        have hP : va_P (dC, dI) vwCl ([zob h0 0 [.ref g, .ref wd, .ref hh, .int (nI sp), .int (nI gp), .int (nI fx)], zob g 1 [.ref al, .int (nI gr), .int (nI gs), .int (nI bg), .int (nI re), .int (nI ce)], zob al 2 [.ref ed, .int (nI n), .int mo], zrf ed cE cap a] ++ zcs n ad (zcf (zup (zup d 8 k1 t1) 9 k1 w1))) H := by rw [← e_z]; exact hP
        have hD : va_D A ([zob h0 0 [.ref g, .ref wd, .ref hh, .int (nI sp), .int (nI gp), .int (nI fx)], zob g 1 [.ref al, .int (nI gr), .int (nI gs), .int (nI bg), .int (nI re), .int (nI ce)], zob al 2 [.ref ed, .int (nI n), .int mo], zrf ed cE cap a] ++ zcs n ad (zcf (zup (zup d 8 k1 t1) 9 k1 w1))) := by rw [← e_z]; exact hD
        refine lv_iconst (v := nI 1) hx hb dSC_border_45 (by decide) ?_
        subst hQ
        exact zw_zret (D := (dC, dI)) (cl := vwCl) (A := A) (zup (zup d 8 k1 t1) 9 k1 w1) hx hb hr hlocks (Or.inr rfl) (Or.inr ⟨k1, t1, w1, hk1, by omega, by omega, rfl, rfl, rfl, rfl, rfl⟩) (zt_sub hP [0, 1, 2, 3] rfl) (hK.sub [] rfl) (zt_subD hD [0, 1, 2, 3] (by decide) rfl) hS dSC_border_46
      · have h_d := z_yF h_rc h_d
        refine lv_iconst (v := nI 0) hx hb dSC_border_30 (by decide) ?_
        subst hQ
        exact zw_zret (D := (dC, dI)) (cl := vwCl) (A := A) d hx hb hr hlocks (Or.inl rfl) (Or.inl ⟨by omega, rfl, rfl⟩) (zt_sub hP [0, 1, 2, 3] rfl) (hK.sub [] rfl) (zt_subD hD [0, 1, 2, 3] (by decide) rfl) hS dSC_border_31
