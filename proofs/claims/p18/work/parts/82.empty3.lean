set_option maxHeartbeats 4000000 in
set_option maxRecDepth 100000 in
theorem e_GR_extendGroupTo (l : Launch) (dC : Nat → ClassId) (dI : Nat → Nat → Nat) (T : va_W) (g : Nat) (al : Nat) (gr : Nat) (gs : Nat) (bg : Nat) (re : Nat) (t : Nat) (mo : Int32) (e1 : Nat) (hg : gr ≤ 1000 ∧ gs ≤ 1000 ∧ bg ≤ 1000 ∧ re ≤ 1000) (he : e1 ≤ 1000) : zw_Mv (S := Unit) l yGR_extendGroupTo wGR_extendGroupTo ({ frames := 1, cells := 0, slots := 0, locals := 20 }) [.ref g, .int (nI e1)] (dC, dI) vwCl ([zob g 1 [.ref al, .int (nI gr), .int (nI gs), .int (nI bg), .int (nI re), .int (nI 0)], zob al 2 [.ref t, .int (nI 0), .int mo]] ++ T) [] (fun _ _ => True) (fun (_ : Unit) => True) (fun (_ : Unit) => ([zob g 1 [.ref al, .int (nI gr), .int (nI gs), .int (nI bg), .int (nI (if re < e1 then e1 else re)), .int (nI 0)], zob al 2 [.ref t, .int (nI 0), .int mo]] ++ T)) (fun (_ : Unit) => []) 0 0 := by
  refine zw_headv (cc := cGR_extendGroupTo) (maxL := 4) (ret := none) (by decide +kernel) rfl (Nat.le_of_ble_eq_true rfl) ?_
  intro p e s m below meth c ls A F hnm hA hP hK hD hS hX hl
  obtain ⟨hx, hb, hml, hr, hlocks, hown, hts⟩ := F
  have hown : s.vm.findClass "SpannedCells$Grid" = some m.cls := hown
  have hz : ∀ w9 ∈ zT, w9.before [.ref g, .int (nI e1)].toArray s = true := fun w9 h => hts w9 (List.mem_cons_of_mem _ h)
  have hl : lv_has ls 4 [(0, .ref g), (1, .int (nI e1))] := hl
  refine z_q (fun Q hQ => ?_)
  refine lv_aload_n hx hb dGR_extendGroupTo_0 rfl (lv_at hl 0 rfl) ?_
  refine lv_aload_n hx hb dGR_extendGroupTo_1 rfl (lv_at hl 0 rfl) ?_
  refine va_get (D := (dC, dI)) (ci := 1) (v := .int (nI re)) (C := RGR) (T := TGR) (N := 6) hx hb hz in_GR hown hK hP 0 rfl rfl 4 (by decide) (hz _ wd_89) (fun _ h9 => h9) rfl dGR_extendGroupTo_2 ?_
  refine lv_iload_n hx hb dGR_extendGroupTo_5 rfl (lv_at hl 1 rfl) ?_
  refine va_mmax hx hb (hml.trans hl.1.symm) hown (hz _ wd_189) (hz _ wd_190) (hz _ wd_38) (hz _ wd_191) (Nat.le_of_ble_eq_true rfl) (Nat.le_of_ble_eq_true rfl) (Nat.le_of_ble_eq_true rfl) (Nat.le_of_ble_eq_true rfl) dGR_extendGroupTo_6 ?_
  refine lv_topi (fun x1 e2 => ?_)
  have e2 : x1 = nI (if re < e1 then e1 else re) := e2.trans (z_max (by omega) (by omega))
  subst e2
  refine va_put (D := (dC, dI)) (ci := 1) (v := .int (nI (if re < e1 then e1 else re))) (ty := .int) (C := RGR) (T := TGR) (N := 6) hx hb hz in_GR tyGR tokGR nokGR hown hK hP hD hS 0 rfl rfl 4 (by decide) (hz _ wd_89) (fun _ h9 => h9) rfl (by decide +kernel) rfl rfl (Nat.le_of_ble_eq_true rfl) dGR_extendGroupTo_9 (fun H locs hP hD hS => ?_)
  have hP : va_P (dC, dI) vwCl ([zob g 1 [.ref al, .int (nI gr), .int (nI gs), .int (nI bg), .int (nI (if re < e1 then e1 else re)), .int (nI 0)], zob al 2 [.ref t, .int (nI 0), .int mo]] ++ T) H := hP
  have hD : va_D A ([zob g 1 [.ref al, .int (nI gr), .int (nI gs), .int (nI bg), .int (nI (if re < e1 then e1 else re)), .int (nI 0)], zob al 2 [.ref t, .int (nI 0), .int mo]] ++ T) := hD
  refine lv_iconst (v := nI 0) hx hb dGR_extendGroupTo_12 (by decide) ?_
  refine lv_istore_n hx hb dGR_extendGroupTo_13 rfl hl (Nat.le_of_ble_eq_true rfl) rfl (fun ls hl => ?_)
  have hl : lv_has ls 4 [(2, .int (nI 0)), (0, .ref g), (1, .int (nI e1))] := hl
  refine lv_iload_n hx hb dGR_extendGroupTo_14 rfl (lv_at hl 0 rfl) ?_
  refine lv_aload_n hx hb dGR_extendGroupTo_15 rfl (lv_at hl 1 rfl) ?_
  refine va_get (D := (dC, dI)) (ci := 1) (v := .ref al) (C := RGR) (T := TGR) (N := 6) hx hb hz in_GR hown hK hP 0 rfl rfl 0 (by decide) (hz _ wd_85) (fun _ h9 => h9) rfl dGR_extendGroupTo_16 ?_
  refine vp_callSi (W.runV (As := []) (rest := [.int (nI 0)]) ⟨hx, hb, hml, hown, hz⟩ (f_AL_size l dC dI al t mo 0 ) (cwV 0 hz (z_gV wd_192 wd_193 wd_194 wd_33 wd_195) rfl rfl rfl (by decide +kernel) ⟨Nat.le_of_ble_eq_true rfl, Nat.le_of_ble_eq_true rfl⟩) (zr_preV hK (hP.sub [1] rfl) (va_recv (q0 := 1) hK hP (q := (RAL, TAL, 3)) rfl rfl) [] rfl z_true (fun _ _ _ => trivial)) rfl rfl hl.1 rfl (lv_room (Nat.le_of_ble_eq_true rfl)) dGR_extendGroupTo_19 ⟨Nat.le_of_ble_eq_true rfl, Nat.le_of_ble_eq_true rfl⟩) (fun r3 h_r3 => ?_)
  have h_r3 : r3 = nI 0 := h_r3
  subst h_r3
  refine lv_icmp_ge (tgt := 62) hx hb dGR_extendGroupTo_22 rfl (fun _ => ?_) (fun h => absurd (by decide) h)
  subst hQ
  exact zw_vret (D := (dC, dI)) (cl := vwCl) (A := A) () hx hb hr hlocks (trivial) (zt_sub hP [0, 1] rfl) (hK.sub [] rfl) (zt_subD hD [0, 1] (by decide) rfl) hS dGR_extendGroupTo_62

set_option maxHeartbeats 4000000 in
set_option maxRecDepth 100000 in
theorem e_GR_beginRow (l : Launch) (dC : Nat → ClassId) (dI : Nat → Nat → Nat) (T : va_W) (g : Nat) (al : Nat) (gr : Nat) (gs : Nat) (bg : Nat) (re : Nat) (t : Nat) (mo : Int32) (hg : gr ≤ 1000 ∧ gs ≤ 1000 ∧ bg ≤ 1000 ∧ re ≤ 1000) : zw_Mi (S := (Nat) × (Nat)) l yGR_beginRow wGR_beginRow ({ frames := 2, cells := 0, slots := 0, locals := 43 }) [.ref g] (dC, dI) vwCl ([zob g 1 [.ref al, .int (nI gr), .int (nI gs), .int (nI bg), .int (nI re), .int (nI 0)], zob al 2 [.ref t, .int (nI 0), .int mo]] ++ T) [] (fun _ _ => True) (fun r u => match u with | (bg2, re2) => (11 < gs + bg ∧ r = -1 ∧ bg2 = bg ∧ re2 = re) ∨ (¬ 11 < gs + bg ∧ r = nI (gs + bg) ∧ bg2 = bg + 1 ∧ re2 = (if re < gs + bg + 1 then gs + bg + 1 else re))) (fun u => match u with | (bg2, re2) => ([zob g 1 [.ref al, .int (nI gr), .int (nI gs), .int (nI bg2), .int (nI re2), .int (nI 0)], zob al 2 [.ref t, .int (nI 0), .int mo]] ++ T)) (fun u => match u with | (bg2, re2) => []) 0 0 := by
  refine zw_headi (cc := cGR_beginRow) (maxL := 2) (ret := (some .int)) (by decide +kernel) rfl (Nat.le_of_ble_eq_true rfl) ?_
  intro p e s m below meth c ls A F hA hP hK hD hS hX hl
  obtain ⟨hx, hb, hml, hr, hlocks, hown, hts⟩ := F
  have hown : s.vm.findClass "SpannedCells$Grid" = some m.cls := hown
  have hz : ∀ w9 ∈ zT, w9.before [.ref g].toArray s = true := fun w9 h => hts w9 (List.mem_cons_of_mem _ h)
  have hl : lv_has ls 2 [(0, .ref g)] := hl
  refine z_q (fun Q hQ => ?_)
  refine lv_aload_n hx hb dGR_beginRow_0 rfl (lv_at hl 0 rfl) ?_
  refine va_get (D := (dC, dI)) (ci := 1) (v := .int (nI gs)) (C := RGR) (T := TGR) (N := 6) hx hb hz in_GR hown hK hP 0 rfl rfl 2 (by decide) (hz _ wd_87) (fun _ h9 => h9) rfl dGR_beginRow_1 ?_
  refine lv_aload_n hx hb dGR_beginRow_4 rfl (lv_at hl 0 rfl) ?_
  refine va_get (D := (dC, dI)) (ci := 1) (v := .int (nI bg)) (C := RGR) (T := TGR) (N := 6) hx hb hz in_GR hown hK hP 0 rfl rfl 3 (by decide) (hz _ wd_88) (fun _ h9 => h9) rfl dGR_beginRow_5 ?_
  refine lv_iadd hx hb dGR_beginRow_8 ?_
  refine lv_topi (fun x1 e2 => ?_)
  have e2 : x1 = nI (gs + bg) := e2.trans (nI_add _ _)
  subst e2
  refine lv_istore_n hx hb dGR_beginRow_9 rfl hl (Nat.le_of_ble_eq_true rfl) rfl (fun ls hl => ?_)
  have hl : lv_has ls 2 [(1, .int (nI (gs + bg))), (0, .ref g)] := hl
  refine lv_iload_n hx hb dGR_beginRow_10 rfl (lv_at hl 0 rfl) ?_
  refine lv_bipush (v := nI 12) hx hb dGR_beginRow_11 (by decide) ?_
  have t3 := nI_toInt (n := gs + bg) (by omega)
  have t4 := nI_toInt (n := 12) (by omega)
  refine lv_icmp_lt (tgt := 18) hx hb dGR_beginRow_13 rfl (fun h1 => ?_) (fun h1 => ?_)
  · have h1 := z_lt h1
    refine lv_aload_n hx hb dGR_beginRow_18 rfl (lv_at hl 1 rfl) ?_
    refine lv_dup hx hb dGR_beginRow_19 rfl ?_
    refine va_get (D := (dC, dI)) (ci := 1) (v := .int (nI bg)) (C := RGR) (T := TGR) (N := 6) hx hb hz in_GR hown hK hP 0 rfl rfl 3 (by decide) (hz _ wd_88) (fun _ h9 => h9) rfl dGR_beginRow_20 ?_
    refine lv_iconst (v := nI 1) hx hb dGR_beginRow_23 (by decide) ?_
    refine lv_iadd hx hb dGR_beginRow_24 ?_
    refine lv_topi (fun x6 e7 => ?_)
    have e7 : x6 = nI (bg + 1) := e7.trans (nI_add _ _)
    subst e7
    refine va_put (D := (dC, dI)) (ci := 1) (v := .int (nI (bg + 1))) (ty := .int) (C := RGR) (T := TGR) (N := 6) hx hb hz in_GR tyGR tokGR nokGR hown hK hP hD hS 0 rfl rfl 3 (by decide) (hz _ wd_88) (fun _ h9 => h9) rfl (by decide +kernel) rfl rfl (Nat.le_of_ble_eq_true rfl) dGR_beginRow_25 (fun H locs hP hD hS => ?_)
    have hP : va_P (dC, dI) vwCl ([zob g 1 [.ref al, .int (nI gr), .int (nI gs), .int (nI (bg + 1)), .int (nI re), .int (nI 0)], zob al 2 [.ref t, .int (nI 0), .int mo]] ++ T) H := hP
    have hD : va_D A ([zob g 1 [.ref al, .int (nI gr), .int (nI gs), .int (nI (bg + 1)), .int (nI re), .int (nI 0)], zob al 2 [.ref t, .int (nI 0), .int mo]] ++ T) := hD
    refine lv_aload_n hx hb dGR_beginRow_28 rfl (lv_at hl 1 rfl) ?_
    refine lv_iload_n hx hb dGR_beginRow_29 rfl (lv_at hl 0 rfl) ?_
    refine lv_iconst (v := nI 1) hx hb dGR_beginRow_30 (by decide) ?_
    refine lv_iadd hx hb dGR_beginRow_31 ?_
    refine lv_topi (fun x8 e9 => ?_)
    have e9 : x8 = nI ((gs + bg) + 1) := e9.trans (nI_add _ _)
    subst e9
    refine zw_callTv (wr := []) hK hP hD hS hA [0, 1] [] rfl rfl (by decide) (by decide) (va_runV (As := [.int (nI ((gs + bg) + 1))]) (rest := []) ⟨hx, hb, hml, hown, hz⟩ ((e_GR_extendGroupTo l dC dI T g al gr gs (bg + 1) re t mo ((gs + bg) + 1) (by omega) (by omega)) H.size) (cwV 1 hz (z_gV wd_185 wd_187 wd_0 wd_30 wd_188) rfl rfl rfl (by decide +kernel) ⟨Nat.le_of_ble_eq_true rfl, Nat.le_of_ble_eq_true rfl⟩) (zw_preVT hK hP hD (va_recv (q0 := 0) hK hP (q := (RGR, TGR, 6)) rfl rfl) [0, 1] (by decide) rfl [] rfl z_true (fun _ _ _ => trivial)) rfl rfl hl.1 rfl (lv_room (Nat.le_of_ble_eq_true rfl)) dGR_beginRow_32 ⟨Nat.le_of_ble_eq_true rfl, Nat.le_of_ble_eq_true rfl⟩) (fun u H locs h_r10 hP hD hK hS => ?_)
    have hP : va_P (dC, dI) vwCl ([zob g 1 [.ref al, .int (nI gr), .int (nI gs), .int (nI (bg + 1)), .int (nI (if re < ((gs + bg) + 1) then ((gs + bg) + 1) else re)), .int (nI 0)], zob al 2 [.ref t, .int (nI 0), .int mo]] ++ T) H := zt_sub hP [0, 1] rfl
    have hD : va_D A ([zob g 1 [.ref al, .int (nI gr), .int (nI gs), .int (nI (bg + 1)), .int (nI (if re < ((gs + bg) + 1) then ((gs + bg) + 1) else re)), .int (nI 0)], zob al 2 [.ref t, .int (nI 0), .int mo]] ++ T) := zt_subD hD [0, 1] (by decide) rfl
    have hK : va_K (dC, dI) vwCl [] s := hK
    refine lv_iload_n hx hb dGR_beginRow_35 rfl (lv_at hl 0 rfl) ?_
    subst hQ
    exact zw_iret (D := (dC, dI)) (cl := vwCl) (A := A) (bg + 1, (if re < gs + bg + 1 then gs + bg + 1 else re)) hx hb hr hlocks (Or.inr ⟨by omega, rfl, rfl, rfl⟩) (zt_sub hP [0, 1] rfl) (hK.sub [] rfl) (zt_subD hD [0, 1] (by decide) rfl) hS dGR_beginRow_36
  · have h1 := z_nlt h1
    refine lv_iconst (v := (-1)) hx hb dGR_beginRow_16 (by decide) ?_
    subst hQ
    exact zw_iret (D := (dC, dI)) (cl := vwCl) (A := A) (bg, re) hx hb hr hlocks (Or.inl ⟨by omega, rfl, rfl, rfl⟩) (zt_sub hP [0, 1] rfl) (hK.sub [] rfl) (zt_subD hD [0, 1] (by decide) rfl) hS dGR_beginRow_17

set_option maxHeartbeats 4000000 in
set_option maxRecDepth 100000 in
theorem e_SC_row (l : Launch) (dC : Nat → ClassId) (dI : Nat → Nat → Nat) (T : va_W) (h0 : Nat) (wd : Nat) (hh : Nat) (sp : Nat) (gp : Nat) (fx : Nat) (g : Nat) (al : Nat) (gr : Nat) (gs : Nat) (bg : Nat) (re : Nat) (t : Nat) (mo : Int32) (hg : gr ≤ 1000 ∧ gs ≤ 1000 ∧ bg ≤ 1000 ∧ re ≤ 1000) : zw_Mi (S := (Nat) × (Nat)) l ySC_row wSC_row ({ frames := 3, cells := 0, slots := 0, locals := 64 }) [.ref h0] (dC, dI) vwCl ([zob h0 0 [.ref g, .ref wd, .ref hh, .int (nI sp), .int (nI gp), .int (nI fx)], zob g 1 [.ref al, .int (nI gr), .int (nI gs), .int (nI bg), .int (nI re), .int (nI 0)], zob al 2 [.ref t, .int (nI 0), .int mo]] ++ T) [] (fun _ _ => True) (fun r u => match u with | (bg2, re2) => (11 < gs + bg ∧ r = -1 ∧ bg2 = bg ∧ re2 = re) ∨ (¬ 11 < gs + bg ∧ r = nI (gs + bg) ∧ bg2 = bg + 1 ∧ re2 = (if re < gs + bg + 1 then gs + bg + 1 else re))) (fun u => match u with | (bg2, re2) => ([zob h0 0 [.ref g, .ref wd, .ref hh, .int (nI sp), .int (nI gp), .int (nI fx)], zob g 1 [.ref al, .int (nI gr), .int (nI gs), .int (nI bg2), .int (nI re2), .int (nI 0)], zob al 2 [.ref t, .int (nI 0), .int mo]] ++ T)) (fun u => match u with | (bg2, re2) => []) 0 0 := by
  refine zw_headi (cc := cSC_row) (maxL := 1) (ret := (some .int)) (by decide +kernel) rfl (Nat.le_of_ble_eq_true rfl) ?_
  intro p e s m below meth c ls A F hA hP hK hD hS hX hl
  obtain ⟨hx, hb, hml, hr, hlocks, hown, hts⟩ := F
  have hown : s.vm.findClass "SpannedCells" = some m.cls := hown
  have hz : ∀ w9 ∈ zT, w9.before [.ref h0].toArray s = true := fun w9 h => hts w9 (List.mem_cons_of_mem _ h)
  have hl : lv_has ls 1 [(0, .ref h0)] := hl
  refine z_q (fun Q hQ => ?_)
  refine lv_aload_n hx hb dSC_row_0 rfl (lv_at hl 0 rfl) ?_
  refine va_get (D := (dC, dI)) (ci := 0) (v := .ref g) (C := RSC) (T := TSC) (N := 6) hx hb hz in_SC hown hK hP 0 rfl rfl 0 (by decide) (hz _ wd_150) (fun _ h9 => h9) rfl dSC_row_1 ?_
  refine zw_callTi (wr := [zob h0 0 [.ref g, .ref wd, .ref hh, .int (nI sp), .int (nI gp), .int (nI fx)]]) hK hP hD hS hA [1, 2] [0] rfl rfl (by decide) (by decide) (va_runV (As := []) (rest := []) ⟨hx, hb, hml, hown, hz⟩ ((e_GR_beginRow l dC dI T g al gr gs bg re t mo (by omega)) s.heap.size) (cwV 0 hz (z_gV wd_181 wd_182 wd_183 wd_30 wd_184) rfl rfl rfl (by decide +kernel) ⟨Nat.le_of_ble_eq_true rfl, Nat.le_of_ble_eq_true rfl⟩) (zw_preVT hK hP hD (va_recv (q0 := 1) hK hP (q := (RGR, TGR, 6)) rfl rfl) [1, 2] (by decide) rfl [] rfl z_true (fun _ _ _ => trivial)) rfl rfl hl.1 rfl (lv_room (Nat.le_of_ble_eq_true rfl)) dSC_row_4 ⟨Nat.le_of_ble_eq_true rfl, Nat.le_of_ble_eq_true rfl⟩) (fun rr u H locs h_rr hP hD hK hS => ?_)
  obtain ⟨x1, x2⟩ := u
  have hP : va_P (dC, dI) vwCl ([zob h0 0 [.ref g, .ref wd, .ref hh, .int (nI sp), .int (nI gp), .int (nI fx)], zob g 1 [.ref al, .int (nI gr), .int (nI gs), .int (nI x1), .int (nI x2), .int (nI 0)], zob al 2 [.ref t, .int (nI 0), .int mo]] ++ T) H := zt_sub hP [0, 1, 2] rfl
  have hD : va_D A ([zob h0 0 [.ref g, .ref wd, .ref hh, .int (nI sp), .int (nI gp), .int (nI fx)], zob g 1 [.ref al, .int (nI gr), .int (nI gs), .int (nI x1), .int (nI x2), .int (nI 0)], zob al 2 [.ref t, .int (nI 0), .int mo]] ++ T) := zt_subD hD [0, 1, 2] (by decide) rfl
  have hK : va_K (dC, dI) vwCl [] s := hK
  have h_rr : (11 < gs + bg ∧ rr = -1 ∧ x1 = bg ∧ x2 = re) ∨ (¬ 11 < gs + bg ∧ rr = nI (gs + bg) ∧ x1 = bg + 1 ∧ x2 = (if re < gs + bg + 1 then gs + bg + 1 else re)) := h_rr
  subst hQ
  exact zw_iret (D := (dC, dI)) (cl := vwCl) (A := A) (x1, x2) hx hb hr hlocks (h_rr) (zt_sub hP [0, 1, 2] rfl) (hK.sub [] rfl) (zt_subD hD [0, 1, 2] (by decide) rfl) hS dSC_row_7

set_option maxHeartbeats 4000000 in
set_option maxRecDepth 100000 in
theorem e_AL_clear (l : Launch) (dC : Nat → ClassId) (dI : Nat → Nat → Nat) (T : va_W) (al : Nat) (t : Nat) (mo : Int32) : zw_Mv (S := (Int32)) l yAL_clear wAL_clear ({ frames := 0, cells := 0, slots := 0, locals := 0 }) [.ref al] (dC, dI) vwCl ([zob al 2 [.ref t, .int (nI 0), .int mo]] ++ T) [] (fun _ _ => True) (fun (mo2 : Int32) => True) (fun (mo2 : Int32) => ([zob al 2 [.ref t, .int (nI 0), .int mo2]] ++ T)) (fun (mo2 : Int32) => []) 0 0 := by
  refine zw_headv (cc := cAL_clear) (maxL := 4) (ret := none) (by decide +kernel) rfl (Nat.le_of_ble_eq_true rfl) ?_
  intro p e s m below meth c ls A F hnm hA hP hK hD hS hX hl
  obtain ⟨hx, hb, hml, hr, hlocks, hown, hts⟩ := F
  have hown : s.vm.findClass "java/util/ArrayList" = some m.cls := hown
  have hz : ∀ w9 ∈ zT, w9.before [.ref al].toArray s = true := fun w9 h => hts w9 (List.mem_cons_of_mem _ h)
  have hl : lv_has ls 4 [(0, .ref al)] := hl
  refine z_q (fun Q hQ => ?_)
  refine lv_aload_n hx hb dAL_clear_0 rfl (lv_at hl 0 rfl) ?_
  refine lv_dup hx hb dAL_clear_1 rfl ?_
  refine va_get (D := (dC, dI)) (ci := 2) (v := .int mo) (C := RAL) (T := TAL) (N := 3) hx hb hz in_AL hown hK hP 0 rfl rfl 2 (by decide) (hz _ wd_76) (fun x9 h9 => u_same (hz _ wd_77) x9 h9) rfl dAL_clear_2 ?_
  refine lv_iconst (v := nI 1) hx hb dAL_clear_5 (by decide) ?_
  refine lv_iadd hx hb dAL_clear_6 ?_
  refine va_put (D := (dC, dI)) (ci := 2) (v := .int (mo + (nI 1))) (ty := .int) (C := RAL) (T := TAL) (N := 3) hx hb hz in_AL tyAL tokAL nokAL hown hK hP hD hS 0 rfl rfl 2 (by decide) (hz _ wd_76) (fun x9 h9 => u_same (hz _ wd_77) x9 h9) rfl (by decide +kernel) rfl rfl (Nat.le_of_ble_eq_true rfl) dAL_clear_7 (fun H locs hP hD hS => ?_)
  have hP : va_P (dC, dI) vwCl ([zob al 2 [.ref t, .int (nI 0), .int (mo + (nI 1))]] ++ T) H := hP
  have hD : va_D A ([zob al 2 [.ref t, .int (nI 0), .int (mo + (nI 1))]] ++ T) := hD
  refine lv_aload_n hx hb dAL_clear_10 rfl (lv_at hl 0 rfl) ?_
  refine va_get (D := (dC, dI)) (ci := 2) (v := .ref t) (C := RAL) (T := TAL) (N := 3) hx hb hz in_AL hown hK hP 0 rfl rfl 0 (by decide) (hz _ wd_73) (fun _ h9 => h9) rfl dAL_clear_11 ?_
  refine lv_astore_n hx hb dAL_clear_14 rfl hl (Nat.le_of_ble_eq_true rfl) rfl (fun ls hl => ?_)
  have hl : lv_has ls 4 [(1, .ref t), (0, .ref al)] := hl
  refine lv_aload_n hx hb dAL_clear_15 rfl (lv_at hl 1 rfl) ?_
  refine va_get (D := (dC, dI)) (ci := 2) (v := .int (nI 0)) (C := RAL) (T := TAL) (N := 3) hx hb hz in_AL hown hK hP 0 rfl rfl 1 (by decide) (hz _ wd_74) (fun _ h9 => h9) rfl dAL_clear_16 ?_
  refine lv_istore_n hx hb dAL_clear_19 rfl hl (Nat.le_of_ble_eq_true rfl) rfl (fun ls hl => ?_)
  have hl : lv_has ls 4 [(2, .int (nI 0)), (1, .ref t), (0, .ref al)] := hl
  refine lv_aload_n hx hb dAL_clear_20 rfl (lv_at hl 2 rfl) ?_
  refine lv_iconst (v := nI 0) hx hb dAL_clear_21 (by decide) ?_
  refine lv_dup_x1 hx hb dAL_clear_22 rfl rfl ?_
  refine va_put (D := (dC, dI)) (ci := 2) (v := .int (nI 0)) (ty := .int) (C := RAL) (T := TAL) (N := 3) hx hb hz in_AL tyAL tokAL nokAL hown hK hP hD hS 0 rfl rfl 1 (by decide) (hz _ wd_74) (fun _ h9 => h9) rfl (by decide +kernel) rfl rfl (Nat.le_of_ble_eq_true rfl) dAL_clear_23 (fun H locs hP hD hS => ?_)
  have hP : va_P (dC, dI) vwCl ([zob al 2 [.ref t, .int (nI 0), .int (mo + (nI 1))]] ++ T) H := hP
  have hD : va_D A ([zob al 2 [.ref t, .int (nI 0), .int (mo + (nI 1))]] ++ T) := hD
  refine lv_istore_n hx hb dAL_clear_26 rfl hl (Nat.le_of_ble_eq_true rfl) rfl (fun ls hl => ?_)
  have hl : lv_has ls 4 [(3, .int (nI 0)), (2, .int (nI 0)), (1, .ref t), (0, .ref al)] := hl
  refine lv_iload_n hx hb dAL_clear_27 rfl (lv_at hl 0 rfl) ?_
  refine lv_iload_n hx hb dAL_clear_28 rfl (lv_at hl 1 rfl) ?_
  refine lv_icmp_ge (tgt := 42) hx hb dAL_clear_29 rfl (fun _ => ?_) (fun h => absurd (by decide) h)
  subst hQ
  exact zw_vret (D := (dC, dI)) (cl := vwCl) (A := A) (mo + nI 1) hx hb hr hlocks (trivial) (zt_sub hP [0] rfl) (hK.sub [] rfl) (zt_subD hD [0] (by decide) rfl) hS dAL_clear_42

set_option maxHeartbeats 4000000 in
set_option maxRecDepth 100000 in
theorem e_GR_empty (l : Launch) (dC : Nat → ClassId) (dI : Nat → Nat → Nat) (T : va_W) (g : Nat) (al : Nat) (gr : Nat) (gs : Nat) (bg : Nat) (re : Nat) (t : Nat) (mo : Int32) (hg : gr ≤ 1000 ∧ gs ≤ 1000 ∧ bg ≤ 1000 ∧ re ≤ 1000) : zw_Mv (S := (Int32)) l yGR_empty wGR_empty ({ frames := 1, cells := 0, slots := 0, locals := 23 }) [.ref g] (dC, dI) vwCl ([zob g 1 [.ref al, .int (nI gr), .int (nI gs), .int (nI bg), .int (nI re), .int (nI 0)], zob al 2 [.ref t, .int (nI 0), .int mo]] ++ T) [] (fun _ _ => True) (fun (mo2 : Int32) => True) (fun (mo2 : Int32) => ([zob g 1 [.ref al, .int (nI 1), .int (nI 0), .int (nI 0), .int (nI 0), .int (nI 0)], zob al 2 [.ref t, .int (nI 0), .int mo2]] ++ T)) (fun (mo2 : Int32) => []) 0 0 := by
  refine zw_headv (cc := cGR_empty) (maxL := 1) (ret := none) (by decide +kernel) rfl (Nat.le_of_ble_eq_true rfl) ?_
  intro p e s m below meth c ls A F hnm hA hP hK hD hS hX hl
  obtain ⟨hx, hb, hml, hr, hlocks, hown, hts⟩ := F
  have hown : s.vm.findClass "SpannedCells$Grid" = some m.cls := hown
  have hz : ∀ w9 ∈ zT, w9.before [.ref g].toArray s = true := fun w9 h => hts w9 (List.mem_cons_of_mem _ h)
  have hl : lv_has ls 1 [(0, .ref g)] := hl
  refine z_q (fun Q hQ => ?_)
  refine lv_aload_n hx hb dGR_empty_0 rfl (lv_at hl 0 rfl) ?_
  refine va_get (D := (dC, dI)) (ci := 1) (v := .ref al) (C := RGR) (T := TGR) (N := 6) hx hb hz in_GR hown hK hP 0 rfl rfl 0 (by decide) (hz _ wd_85) (fun _ h9 => h9) rfl dGR_empty_1 ?_
  refine zw_callTv (wr := [zob g 1 [.ref al, .int (nI gr), .int (nI gs), .int (nI bg), .int (nI re), .int (nI 0)]]) hK hP hD hS hA [1] [0] rfl rfl (by decide) (by decide) (va_runV (As := []) (rest := []) ⟨hx, hb, hml, hown, hz⟩ ((e_AL_clear l dC dI T al t mo ) s.heap.size) (cwV 0 hz (z_gV wd_383 wd_384 wd_385 wd_33 wd_386) rfl rfl rfl (by decide +kernel) ⟨Nat.le_of_ble_eq_true rfl, Nat.le_of_ble_eq_true rfl⟩) (zw_preVT hK hP hD (va_recv (q0 := 1) hK hP (q := (RAL, TAL, 3)) rfl rfl) [1] (by decide) rfl [] rfl z_true (fun _ _ _ => trivial)) rfl rfl hl.1 rfl (lv_room (Nat.le_of_ble_eq_true rfl)) dGR_empty_4 ⟨Nat.le_of_ble_eq_true rfl, Nat.le_of_ble_eq_true rfl⟩) (fun u H locs h_r1 hP hD hK hS => ?_)
  obtain ⟨x1, rfl⟩ : ∃ z, z = u := ⟨_, rfl⟩
  have hP : va_P (dC, dI) vwCl ([zob g 1 [.ref al, .int (nI gr), .int (nI gs), .int (nI bg), .int (nI re), .int (nI 0)], zob al 2 [.ref t, .int (nI 0), .int x1]] ++ T) H := zt_sub hP [0, 1] rfl
  have hD : va_D A ([zob g 1 [.ref al, .int (nI gr), .int (nI gs), .int (nI bg), .int (nI re), .int (nI 0)], zob al 2 [.ref t, .int (nI 0), .int x1]] ++ T) := zt_subD hD [0, 1] (by decide) rfl
  have hK : va_K (dC, dI) vwCl [] s := hK
  refine lv_aload_n hx hb dGR_empty_7 rfl (lv_at hl 0 rfl) ?_
  refine lv_iconst (v := nI 1) hx hb dGR_empty_8 (by decide) ?_
  refine va_put (D := (dC, dI)) (ci := 1) (v := .int (nI 1)) (ty := .int) (C := RGR) (T := TGR) (N := 6) hx hb hz in_GR tyGR tokGR nokGR hown hK hP hD hS 0 rfl rfl 1 (by decide) (hz _ wd_86) (fun _ h9 => h9) rfl (by decide +kernel) rfl rfl (Nat.le_of_ble_eq_true rfl) dGR_empty_9 (fun H locs hP hD hS => ?_)
  have hP : va_P (dC, dI) vwCl ([zob g 1 [.ref al, .int (nI 1), .int (nI gs), .int (nI bg), .int (nI re), .int (nI 0)], zob al 2 [.ref t, .int (nI 0), .int x1]] ++ T) H := hP
  have hD : va_D A ([zob g 1 [.ref al, .int (nI 1), .int (nI gs), .int (nI bg), .int (nI re), .int (nI 0)], zob al 2 [.ref t, .int (nI 0), .int x1]] ++ T) := hD
  refine lv_aload_n hx hb dGR_empty_12 rfl (lv_at hl 0 rfl) ?_
  refine lv_iconst (v := nI 0) hx hb dGR_empty_13 (by decide) ?_
  refine va_put (D := (dC, dI)) (ci := 1) (v := .int (nI 0)) (ty := .int) (C := RGR) (T := TGR) (N := 6) hx hb hz in_GR tyGR tokGR nokGR hown hK hP hD hS 0 rfl rfl 2 (by decide) (hz _ wd_87) (fun _ h9 => h9) rfl (by decide +kernel) rfl rfl (Nat.le_of_ble_eq_true rfl) dGR_empty_14 (fun H locs hP hD hS => ?_)
  have hP : va_P (dC, dI) vwCl ([zob g 1 [.ref al, .int (nI 1), .int (nI 0), .int (nI bg), .int (nI re), .int (nI 0)], zob al 2 [.ref t, .int (nI 0), .int x1]] ++ T) H := hP
  have hD : va_D A ([zob g 1 [.ref al, .int (nI 1), .int (nI 0), .int (nI bg), .int (nI re), .int (nI 0)], zob al 2 [.ref t, .int (nI 0), .int x1]] ++ T) := hD
  refine lv_aload_n hx hb dGR_empty_17 rfl (lv_at hl 0 rfl) ?_
  refine lv_iconst (v := nI 0) hx hb dGR_empty_18 (by decide) ?_
  refine va_put (D := (dC, dI)) (ci := 1) (v := .int (nI 0)) (ty := .int) (C := RGR) (T := TGR) (N := 6) hx hb hz in_GR tyGR tokGR nokGR hown hK hP hD hS 0 rfl rfl 3 (by decide) (hz _ wd_88) (fun _ h9 => h9) rfl (by decide +kernel) rfl rfl (Nat.le_of_ble_eq_true rfl) dGR_empty_19 (fun H locs hP hD hS => ?_)
  have hP : va_P (dC, dI) vwCl ([zob g 1 [.ref al, .int (nI 1), .int (nI 0), .int (nI 0), .int (nI re), .int (nI 0)], zob al 2 [.ref t, .int (nI 0), .int x1]] ++ T) H := hP
  have hD : va_D A ([zob g 1 [.ref al, .int (nI 1), .int (nI 0), .int (nI 0), .int (nI re), .int (nI 0)], zob al 2 [.ref t, .int (nI 0), .int x1]] ++ T) := hD
  refine lv_aload_n hx hb dGR_empty_22 rfl (lv_at hl 0 rfl) ?_
  refine lv_iconst (v := nI 0) hx hb dGR_empty_23 (by decide) ?_
  refine va_put (D := (dC, dI)) (ci := 1) (v := .int (nI 0)) (ty := .int) (C := RGR) (T := TGR) (N := 6) hx hb hz in_GR tyGR tokGR nokGR hown hK hP hD hS 0 rfl rfl 4 (by decide) (hz _ wd_89) (fun _ h9 => h9) rfl (by decide +kernel) rfl rfl (Nat.le_of_ble_eq_true rfl) dGR_empty_24 (fun H locs hP hD hS => ?_)
  have hP : va_P (dC, dI) vwCl ([zob g 1 [.ref al, .int (nI 1), .int (nI 0), .int (nI 0), .int (nI 0), .int (nI 0)], zob al 2 [.ref t, .int (nI 0), .int x1]] ++ T) H := hP
  have hD : va_D A ([zob g 1 [.ref al, .int (nI 1), .int (nI 0), .int (nI 0), .int (nI 0), .int (nI 0)], zob al 2 [.ref t, .int (nI 0), .int x1]] ++ T) := hD
  refine lv_aload_n hx hb dGR_empty_27 rfl (lv_at hl 0 rfl) ?_
  refine lv_iconst (v := nI 0) hx hb dGR_empty_28 (by decide) ?_
  refine va_put (D := (dC, dI)) (ci := 1) (v := .int (nI 0)) (ty := .int) (C := RGR) (T := TGR) (N := 6) hx hb hz in_GR tyGR tokGR nokGR hown hK hP hD hS 0 rfl rfl 5 (by decide) (hz _ wd_90) (fun _ h9 => h9) rfl (by decide +kernel) rfl rfl (Nat.le_of_ble_eq_true rfl) dGR_empty_29 (fun H locs hP hD hS => ?_)
  have hP : va_P (dC, dI) vwCl ([zob g 1 [.ref al, .int (nI 1), .int (nI 0), .int (nI 0), .int (nI 0), .int (nI 0)], zob al 2 [.ref t, .int (nI 0), .int x1]] ++ T) H := hP
  have hD : va_D A ([zob g 1 [.ref al, .int (nI 1), .int (nI 0), .int (nI 0), .int (nI 0), .int (nI 0)], zob al 2 [.ref t, .int (nI 0), .int x1]] ++ T) := hD
  subst hQ
  exact zw_vret (D := (dC, dI)) (cl := vwCl) (A := A) x1 hx hb hr hlocks (trivial) (zt_sub hP [0, 1] rfl) (hK.sub [] rfl) (zt_subD hD [0, 1] (by decide) rfl) hS dGR_empty_32

set_option maxHeartbeats 4000000 in
set_option maxRecDepth 100000 in
theorem e_SC_clear (l : Launch) (dC : Nat → ClassId) (dI : Nat → Nat → Nat) (T : va_W) (h0 : Nat) (wd : Nat) (hh : Nat) (sp : Nat) (gp : Nat) (fx : Nat) (g : Nat) (al : Nat) (gr : Nat) (gs : Nat) (bg : Nat) (re : Nat) (t : Nat) (mo : Int32) (hg : gr ≤ 1000 ∧ gs ≤ 1000 ∧ bg ≤ 1000 ∧ re ≤ 1000) : zw_Mi (S := (Int32)) l ySC_clear wSC_clear ({ frames := 2, cells := 0, slots := 0, locals := 43 }) [.ref h0] (dC, dI) vwCl ([zob h0 0 [.ref g, .ref wd, .ref hh, .int (nI sp), .int (nI gp), .int (nI fx)], zob g 1 [.ref al, .int (nI gr), .int (nI gs), .int (nI bg), .int (nI re), .int (nI 0)], zob al 2 [.ref t, .int (nI 0), .int mo]] ++ T) [] (fun _ _ => True) (fun r (mo2 : Int32) => r = nI 0) (fun (mo2 : Int32) => ([zob h0 0 [.ref g, .ref wd, .ref hh, .int (nI sp), .int (nI gp), .int (nI fx)], zob g 1 [.ref al, .int (nI 1), .int (nI 0), .int (nI 0), .int (nI 0), .int (nI 0)], zob al 2 [.ref t, .int (nI 0), .int mo2]] ++ T)) (fun (mo2 : Int32) => []) 0 0 := by
  refine zw_headi (cc := cSC_clear) (maxL := 2) (ret := (some .int)) (by decide +kernel) rfl (Nat.le_of_ble_eq_true rfl) ?_
  intro p e s m below meth c ls A F hA hP hK hD hS hX hl
  obtain ⟨hx, hb, hml, hr, hlocks, hown, hts⟩ := F
  have hown : s.vm.findClass "SpannedCells" = some m.cls := hown
  have hz : ∀ w9 ∈ zT, w9.before [.ref h0].toArray s = true := fun w9 h => hts w9 (List.mem_cons_of_mem _ h)
  have hl : lv_has ls 2 [(0, .ref h0)] := hl
  refine z_q (fun Q hQ => ?_)
  refine lv_aload_n hx hb dSC_clear_0 rfl (lv_at hl 0 rfl) ?_
  refine va_get (D := (dC, dI)) (ci := 0) (v := .ref g) (C := RSC) (T := TSC) (N := 6) hx hb hz in_SC hown hK hP 0 rfl rfl 0 (by decide) (hz _ wd_150) (fun _ h9 => h9) rfl dSC_clear_1 ?_
  refine vp_callSi (W.runV (As := []) (rest := []) ⟨hx, hb, hml, hown, hz⟩ (e_GR_cellCount l dC dI g al gr gs bg re t mo (by omega)) (cwV 0 hz (z_gV wd_375 wd_376 wd_377 wd_30 wd_378) rfl rfl rfl (by decide +kernel) ⟨Nat.le_of_ble_eq_true rfl, Nat.le_of_ble_eq_true rfl⟩) (zr_preV hK (hP.sub [1, 2] rfl) (va_recv (q0 := 1) hK hP (q := (RGR, TGR, 6)) rfl rfl) [] rfl z_true (fun _ _ _ => trivial)) rfl rfl hl.1 rfl (lv_room (Nat.le_of_ble_eq_true rfl)) dSC_clear_4 ⟨Nat.le_of_ble_eq_true rfl, Nat.le_of_ble_eq_true rfl⟩) (fun r1 h_r1 => ?_)
  have h_r1 : r1 = nI 0 := h_r1
  subst h_r1
  refine lv_istore_n hx hb dSC_clear_7 rfl hl (Nat.le_of_ble_eq_true rfl) rfl (fun ls hl => ?_)
  have hl : lv_has ls 2 [(1, .int (nI 0)), (0, .ref h0)] := hl
  refine lv_aload_n hx hb dSC_clear_8 rfl (lv_at hl 1 rfl) ?_
  refine va_get (D := (dC, dI)) (ci := 0) (v := .ref g) (C := RSC) (T := TSC) (N := 6) hx hb hz in_SC hown hK hP 0 rfl rfl 0 (by decide) (hz _ wd_150) (fun _ h9 => h9) rfl dSC_clear_9 ?_
  refine zw_callTv (wr := [zob h0 0 [.ref g, .ref wd, .ref hh, .int (nI sp), .int (nI gp), .int (nI fx)]]) hK hP hD hS hA [1, 2] [0] rfl rfl (by decide) (by decide) (va_runV (As := []) (rest := []) ⟨hx, hb, hml, hown, hz⟩ ((e_GR_empty l dC dI T g al gr gs bg re t mo (by omega)) s.heap.size) (cwV 0 hz (z_gV wd_379 wd_380 wd_381 wd_30 wd_382) rfl rfl rfl (by decide +kernel) ⟨Nat.le_of_ble_eq_true rfl, Nat.le_of_ble_eq_true rfl⟩) (zw_preVT hK hP hD (va_recv (q0 := 1) hK hP (q := (RGR, TGR, 6)) rfl rfl) [1, 2] (by decide) rfl [] rfl z_true (fun _ _ _ => trivial)) rfl rfl hl.1 rfl (lv_room (Nat.le_of_ble_eq_true rfl)) dSC_clear_12 ⟨Nat.le_of_ble_eq_true rfl, Nat.le_of_ble_eq_true rfl⟩) (fun u H locs h_r2 hP hD hK hS => ?_)
  obtain ⟨x1, rfl⟩ : ∃ z, z = u := ⟨_, rfl⟩
  have hP : va_P (dC, dI) vwCl ([zob h0 0 [.ref g, .ref wd, .ref hh, .int (nI sp), .int (nI gp), .int (nI fx)], zob g 1 [.ref al, .int (nI 1), .int (nI 0), .int (nI 0), .int (nI 0), .int (nI 0)], zob al 2 [.ref t, .int (nI 0), .int x1]] ++ T) H := zt_sub hP [0, 1, 2] rfl
  have hD : va_D A ([zob h0 0 [.ref g, .ref wd, .ref hh, .int (nI sp), .int (nI gp), .int (nI fx)], zob g 1 [.ref al, .int (nI 1), .int (nI 0), .int (nI 0), .int (nI 0), .int (nI 0)], zob al 2 [.ref t, .int (nI 0), .int x1]] ++ T) := zt_subD hD [0, 1, 2] (by decide) rfl
  have hK : va_K (dC, dI) vwCl [] s := hK
  refine lv_iload_n hx hb dSC_clear_15 rfl (lv_at hl 0 rfl) ?_
  subst hQ
  exact zw_iret (D := (dC, dI)) (cl := vwCl) (A := A) x1 hx hb hr hlocks (rfl) (zt_sub hP [0, 1, 2] rfl) (hK.sub [] rfl) (zt_subD hD [0, 1, 2] (by decide) rfl) hS dSC_clear_16

set_option maxHeartbeats 4000000 in
set_option maxRecDepth 100000 in
theorem e_HE_measure (l : Launch) (dC : Nat → ClassId) (dI : Nat → Nat → Nat) (T : va_W) (hh : Nat) (ln : Nat) (pn : Nat) (kn : ClassId) (gn : Nat → Int32) (g : Nat) (al : Nat) (gr : Nat) (gs : Nat) (bg : Nat) (re : Nat) (t : Nat) (mo : Int32) (gp : Nat) (hg : gr ≤ 1000 ∧ gs ≤ 1000 ∧ bg ≤ 1000 ∧ re ≤ 1000) : zw_Mv (S := (Nat → Int32)) l yHE_measure wHE_measure ({ frames := 2, cells := 0, slots := 0, locals := 43 }) [.ref hh, .ref g, .int (nI gp)] (dC, dI) vwCl ([zob hh 5 [.ref ln], zob ln 4 [.ref pn], zar pn kn 12 gn, zob g 1 [.ref al, .int (nI gr), .int (nI gs), .int (nI bg), .int (nI re), .int (nI 0)], zob al 2 [.ref t, .int (nI 0), .int mo]] ++ T) [(kn, .int)] (fun _ _ => True) (fun (gn2 : Nat → Int32) => True) (fun (gn2 : Nat → Int32) => ([zob hh 5 [.ref ln], zob ln 4 [.ref pn], zar pn kn 12 gn2, zob g 1 [.ref al, .int (nI gr), .int (nI gs), .int (nI bg), .int (nI re), .int (nI 0)], zob al 2 [.ref t, .int (nI 0), .int mo]] ++ T)) (fun (gn2 : Nat → Int32) => []) 0 0 := by
  refine zw_headv (cc := cHE_measure) (maxL := 6) (ret := none) (by decide +kernel) rfl (Nat.le_of_ble_eq_true rfl) ?_
  intro p e s m below meth c ls A F hnm hA hP hK hD hS hX hl
  obtain ⟨hx, hb, hml, hr, hlocks, hown, hts⟩ := F
  have hown : s.vm.findClass "SpannedCells$Heights" = some m.cls := hown
  have hz : ∀ w9 ∈ zT, w9.before [.ref hh, .ref g, .int (nI gp)].toArray s = true := fun w9 h => hts w9 (List.mem_cons_of_mem _ h)
  have hl : lv_has ls 6 [(0, .ref hh), (1, .ref g), (2, .int (nI gp))] := hl
  refine z_q (fun Q hQ => ?_)
  refine lv_aload_n hx hb dHE_measure_0 rfl (lv_at hl 0 rfl) ?_
  refine va_get (D := (dC, dI)) (ci := 5) (v := .ref ln) (C := RHE) (T := THE) (N := 1) hx hb hz in_HE hown hK hP 0 rfl rfl 0 (by decide) (hz _ wd_145) (fun _ h9 => h9) rfl dHE_measure_1 ?_
  refine zw_callTv (wr := [zob hh 5 [.ref ln], zob g 1 [.ref al, .int (nI gr), .int (nI gs), .int (nI bg), .int (nI re), .int (nI 0)], zob al 2 [.ref t, .int (nI 0), .int mo]]) hK hP hD hS hA [1, 2] [0, 3, 4] rfl rfl (by decide) (by decide) (va_runV (As := []) (rest := []) ⟨hx, hb, hml, hown, hz⟩ ((f_LI_reset l dC dI T ln pn kn gn ) s.heap.size) (cwV 0 hz (z_gV wd_539 wd_458 wd_459 wd_35 wd_460) rfl rfl rfl (by decide +kernel) ⟨Nat.le_of_ble_eq_true rfl, Nat.le_of_ble_eq_true rfl⟩) (zw_preVT hK hP hD (va_recv (q0 := 1) hK hP (q := (RLI, TLI, 1)) rfl rfl) [1, 2] (by decide) rfl [0] rfl z_true (fun _ _ _ => trivial)) rfl rfl hl.1 rfl (lv_room (Nat.le_of_ble_eq_true rfl)) dHE_measure_4 ⟨Nat.le_of_ble_eq_true rfl, Nat.le_of_ble_eq_true rfl⟩) (fun u H locs h_r2 hP hD hK hS => ?_)
  obtain ⟨f_1, rfl⟩ : ∃ z, z = u := ⟨_, rfl⟩
  have hP : va_P (dC, dI) vwCl ([zob hh 5 [.ref ln], zob ln 4 [.ref pn], zar pn kn 12 f_1, zob g 1 [.ref al, .int (nI gr), .int (nI gs), .int (nI bg), .int (nI re), .int (nI 0)], zob al 2 [.ref t, .int (nI 0), .int mo]] ++ T) H := zt_sub hP [0, 3, 4, 1, 2] rfl
  have hD : va_D A ([zob hh 5 [.ref ln], zob ln 4 [.ref pn], zar pn kn 12 f_1, zob g 1 [.ref al, .int (nI gr), .int (nI gs), .int (nI bg), .int (nI re), .int (nI 0)], zob al 2 [.ref t, .int (nI 0), .int mo]] ++ T) := zt_subD hD [0, 3, 4, 1, 2] (by decide) rfl
  have hK : va_K (dC, dI) vwCl [(kn, .int)] s := hK
  refine lv_iconst (v := nI 1) hx hb dHE_measure_7 (by decide) ?_
  refine lv_istore_n hx hb dHE_measure_8 rfl hl (Nat.le_of_ble_eq_true rfl) rfl (fun ls hl => ?_)
  have hl : lv_has ls 6 [(3, .int (nI 1)), (0, .ref hh), (1, .ref g), (2, .int (nI gp))] := hl
  refine zl_upW (σ := (Nat → Int32)) 13 (fun i b_ ls H locs => lv_has ls 6 [(3, .int (nI i)), (2, .int (nI gp)), (1, .ref g), (0, .ref hh)] ∧ va_P (dC, dI) vwCl ([zob hh 5 [.ref ln], zob ln 4 [.ref pn], zar pn kn 12 b_, zob g 1 [.ref al, .int (nI gr), .int (nI gs), .int (nI bg), .int (nI re), .int (nI 0)], zob al 2 [.ref t, .int (nI 0), .int mo]] ++ T) H ∧ va_D A ([zob hh 5 [.ref ln], zob ln 4 [.ref pn], zar pn kn 12 b_, zob g 1 [.ref al, .int (nI gr), .int (nI gs), .int (nI bg), .int (nI re), .int (nI 0)], zob al 2 [.ref t, .int (nI 0), .int mo]] ++ T) ∧ va_S A s.heap H locs) ?_ ?_ 1 (by decide) f_1 ls H locs ⟨lv_sub hl [0, 3, 2, 1] rfl, hP, hD, hS⟩
  · intro x9 ls H locs hI
    obtain ⟨b_, rfl⟩ : ∃ z, z = x9 := ⟨_, rfl⟩
    obtain ⟨hl, hP, hD, hS⟩ := hI
    have hl : lv_has ls 6 [(3, .int (nI 13)), (2, .int (nI gp)), (1, .ref g), (0, .ref hh)] := hl
    have hP : va_P (dC, dI) vwCl ([zob hh 5 [.ref ln], zob ln 4 [.ref pn], zar pn kn 12 b_, zob g 1 [.ref al, .int (nI gr), .int (nI gs), .int (nI bg), .int (nI re), .int (nI 0)], zob al 2 [.ref t, .int (nI 0), .int mo]] ++ T) H := hP
    have hD : va_D A ([zob hh 5 [.ref ln], zob ln 4 [.ref pn], zar pn kn 12 b_, zob g 1 [.ref al, .int (nI gr), .int (nI gs), .int (nI bg), .int (nI re), .int (nI 0)], zob al 2 [.ref t, .int (nI 0), .int mo]] ++ T) := hD
    refine lv_iload_n hx hb dHE_measure_9 rfl (lv_at hl 0 rfl) ?_
    refine lv_bipush (v := nI 12) hx hb dHE_measure_10 (by decide) ?_
    refine lv_icmp_gt (tgt := 83) hx hb dHE_measure_12 rfl (fun _ => ?_) (fun h => absurd (by decide) h)
    subst hQ
    exact zw_vret (D := (dC, dI)) (cl := vwCl) (A := A) b_ hx hb hr hlocks (trivial) (zt_sub hP [0, 1, 2, 3, 4] rfl) (hK.sub [] rfl) (zt_subD hD [0, 1, 2, 3, 4] (by decide) rfl) hS dHE_measure_83
  · intro i hi ih
    intro x9 ls H locs hI
    obtain ⟨b_, rfl⟩ : ∃ z, z = x9 := ⟨_, rfl⟩
    obtain ⟨hl, hP, hD, hS⟩ := hI
    have hl : lv_has ls 6 [(3, .int (nI i)), (2, .int (nI gp)), (1, .ref g), (0, .ref hh)] := hl
    have hP : va_P (dC, dI) vwCl ([zob hh 5 [.ref ln], zob ln 4 [.ref pn], zar pn kn 12 b_, zob g 1 [.ref al, .int (nI gr), .int (nI gs), .int (nI bg), .int (nI re), .int (nI 0)], zob al 2 [.ref t, .int (nI 0), .int mo]] ++ T) H := hP
    have hD : va_D A ([zob hh 5 [.ref ln], zob ln 4 [.ref pn], zar pn kn 12 b_, zob g 1 [.ref al, .int (nI gr), .int (nI gs), .int (nI bg), .int (nI re), .int (nI 0)], zob al 2 [.ref t, .int (nI 0), .int mo]] ++ T) := hD
    refine lv_iload_n hx hb dHE_measure_9 rfl (lv_at hl 0 rfl) ?_
    refine lv_bipush (v := nI 12) hx hb dHE_measure_10 (by decide) ?_
    have t3 := nI_toInt (n := i) (by omega)
    have t4 := nI_toInt (n := 12) (by omega)
    refine lv_icmp_gt (tgt := 83) hx hb dHE_measure_12 rfl (fun h => by have h := z_lt h; omega) (fun _ => ?_)
    refine lv_iconst (v := nI 0) hx hb dHE_measure_15 (by decide) ?_
    refine lv_istore hx hb dHE_measure_16 hl (Nat.le_of_ble_eq_true rfl) rfl (fun ls hl => ?_)
    have hl : lv_has ls 6 [(4, .int (nI 0)), (3, .int (nI i)), (2, .int (nI gp)), (1, .ref g), (0, .ref hh)] := hl
    refine lv_iload hx hb dHE_measure_18 (lv_at hl 0 rfl) ?_
    refine lv_aload_n hx hb dHE_measure_20 rfl (lv_at hl 3 rfl) ?_
    refine vp_callSi (W.runV (As := []) (rest := [.int (nI 0)]) ⟨hx, hb, hml, hown, hz⟩ (e_GR_cellCount l dC dI g al gr gs bg re t mo (by omega)) (cwV 0 hz (z_gV wd_540 wd_376 wd_377 wd_30 wd_378) rfl rfl rfl (by decide +kernel) ⟨Nat.le_of_ble_eq_true rfl, Nat.le_of_ble_eq_true rfl⟩) (zr_preV hK (hP.sub [3, 4] rfl) (va_recv (q0 := 3) hK hP (q := (RGR, TGR, 6)) rfl rfl) [] rfl z_true (fun _ _ _ => trivial)) rfl rfl hl.1 rfl (lv_room (Nat.le_of_ble_eq_true rfl)) dHE_measure_21 ⟨Nat.le_of_ble_eq_true rfl, Nat.le_of_ble_eq_true rfl⟩) (fun r5 h_r5 => ?_)
    have h_r5 : r5 = nI 0 := h_r5
    subst h_r5
    refine lv_icmp_ge (tgt := 77) hx hb dHE_measure_24 rfl (fun _ => ?_) (fun h => absurd (by decide) h)
    refine lv_iinc (k := 1) (v := nI (i + 1)) hx hb dHE_measure_77 hl rfl (by rw [show Int32.ofInt 1 = nI 1 from by decide]; exact nI_add _ _) (Nat.le_of_ble_eq_true rfl) rfl (fun ls hl => ?_)
    have hl : lv_has ls 6 [(3, .int (nI (i + 1))), (4, .int (nI 0)), (2, .int (nI gp)), (1, .ref g), (0, .ref hh)] := hl
    refine lv_goto (tgt := 9) hx hb dHE_measure_80 rfl ?_
    exact ih b_ ls H locs ⟨lv_sub hl [0, 2, 3, 4] rfl, hP, hD, hS⟩

set_option maxHeartbeats 4000000 in
set_option maxRecDepth 100000 in
theorem e_SC_measuredHeights (l : Launch) (dC : Nat → ClassId) (dI : Nat → Nat → Nat) (T : va_W) (h0 : Nat) (sp : Nat) (gp : Nat) (fx : Nat) (wd : Nat) (hh : Nat) (ln : Nat) (pn : Nat) (kn : ClassId) (gn : Nat → Int32) (g : Nat) (al : Nat) (gr : Nat) (gs : Nat) (bg : Nat) (re : Nat) (t : Nat) (mo : Int32) (hg : gr ≤ 1000 ∧ gs ≤ 1000 ∧ bg ≤ 1000 ∧ re ≤ 1000) : zw_Mr (S := (Nat → Int32)) l ySC_measuredHeights wSC_measuredHeights ({ frames := 3, cells := 0, slots := 0, locals := 68 }) [.ref h0] (dC, dI) vwCl ([zob h0 0 [.ref g, .ref wd, .ref hh, .int (nI sp), .int (nI gp), .int (nI fx)], zob hh 5 [.ref ln], zob ln 4 [.ref pn], zar pn kn 12 gn, zob g 1 [.ref al, .int (nI gr), .int (nI gs), .int (nI bg), .int (nI re), .int (nI 0)], zob al 2 [.ref t, .int (nI 0), .int mo]] ++ T) [(kn, .int)] (fun _ _ => True) (fun (gn2 : Nat → Int32) => True) (fun (gn2 : Nat → Int32) => ([zob h0 0 [.ref g, .ref wd, .ref hh, .int (nI sp), .int (nI gp), .int (nI fx)], zob hh 5 [.ref ln], zob ln 4 [.ref pn], zar pn kn 12 gn2, zob g 1 [.ref al, .int (nI gr), .int (nI gs), .int (nI bg), .int (nI re), .int (nI 0)], zob al 2 [.ref t, .int (nI 0), .int mo]] ++ T)) (fun (gn2 : Nat → Int32) => []) (fun (gn2 : Nat → Int32) => ln) 0 0 := by
  refine zw_headr (cc := cSC_measuredHeights) (maxL := 1) (ret := (some (.object "SpannedCells$Lines"))) (by decide +kernel) rfl (Nat.le_of_ble_eq_true rfl) ?_
  intro p e s m below meth c ls A F hA hP hK hD hS hX hl
  obtain ⟨hx, hb, hml, hr, hlocks, hown, hts⟩ := F
  have hown : s.vm.findClass "SpannedCells" = some m.cls := hown
  have hz : ∀ w9 ∈ zT, w9.before [.ref h0].toArray s = true := fun w9 h => hts w9 (List.mem_cons_of_mem _ h)
  have hl : lv_has ls 1 [(0, .ref h0)] := hl
  refine z_q (fun Q hQ => ?_)
  refine lv_aload_n hx hb dSC_measuredHeights_0 rfl (lv_at hl 0 rfl) ?_
  refine va_get (D := (dC, dI)) (ci := 0) (v := .ref hh) (C := RSC) (T := TSC) (N := 6) hx hb hz in_SC hown hK hP 0 rfl rfl 2 (by decide) (hz _ wd_152) (fun _ h9 => h9) rfl dSC_measuredHeights_1 ?_
  refine lv_aload_n hx hb dSC_measuredHeights_4 rfl (lv_at hl 0 rfl) ?_
  refine va_get (D := (dC, dI)) (ci := 0) (v := .ref g) (C := RSC) (T := TSC) (N := 6) hx hb hz in_SC hown hK hP 0 rfl rfl 0 (by decide) (hz _ wd_150) (fun _ h9 => h9) rfl dSC_measuredHeights_5 ?_
  refine lv_aload_n hx hb dSC_measuredHeights_8 rfl (lv_at hl 0 rfl) ?_
  refine va_get (D := (dC, dI)) (ci := 0) (v := .int (nI gp)) (C := RSC) (T := TSC) (N := 6) hx hb hz in_SC hown hK hP 0 rfl rfl 4 (by decide) (hz _ wd_154) (fun _ h9 => h9) rfl dSC_measuredHeights_9 ?_
  refine zw_callTv (wr := [zob h0 0 [.ref g, .ref wd, .ref hh, .int (nI sp), .int (nI gp), .int (nI fx)]]) hK hP hD hS hA [1, 2, 3, 4, 5] [0] rfl rfl (by decide) (by decide) (va_runV (As := [.ref g, .int (nI gp)]) (rest := []) ⟨hx, hb, hml, hown, hz⟩ ((e_HE_measure l dC dI T hh ln pn kn gn g al gr gs bg re t mo gp (by omega)) s.heap.size) (cwV 2 hz (z_gV wd_535 wd_536 wd_537 wd_36 wd_538) rfl rfl rfl (by decide +kernel) ⟨Nat.le_of_ble_eq_true rfl, Nat.le_of_ble_eq_true rfl⟩) (zw_preVT hK hP hD (va_recv (q0 := 1) hK hP (q := (RHE, THE, 1)) rfl rfl) [1, 2, 3, 4, 5] (by decide) rfl [0] rfl z_true (fun _ _ _ => trivial)) rfl rfl hl.1 rfl (lv_room (Nat.le_of_ble_eq_true rfl)) dSC_measuredHeights_12 ⟨Nat.le_of_ble_eq_true rfl, Nat.le_of_ble_eq_true rfl⟩) (fun u H locs h_r2 hP hD hK hS => ?_)
  obtain ⟨gn_1, rfl⟩ : ∃ z, z = u := ⟨_, rfl⟩
  have hP : va_P (dC, dI) vwCl ([zob h0 0 [.ref g, .ref wd, .ref hh, .int (nI sp), .int (nI gp), .int (nI fx)], zob hh 5 [.ref ln], zob ln 4 [.ref pn], zar pn kn 12 gn_1, zob g 1 [.ref al, .int (nI gr), .int (nI gs), .int (nI bg), .int (nI re), .int (nI 0)], zob al 2 [.ref t, .int (nI 0), .int mo]] ++ T) H := zt_sub hP [0, 1, 2, 3, 4, 5] rfl
  have hD : va_D A ([zob h0 0 [.ref g, .ref wd, .ref hh, .int (nI sp), .int (nI gp), .int (nI fx)], zob hh 5 [.ref ln], zob ln 4 [.ref pn], zar pn kn 12 gn_1, zob g 1 [.ref al, .int (nI gr), .int (nI gs), .int (nI bg), .int (nI re), .int (nI 0)], zob al 2 [.ref t, .int (nI 0), .int mo]] ++ T) := zt_subD hD [0, 1, 2, 3, 4, 5] (by decide) rfl
  have hK : va_K (dC, dI) vwCl [(kn, .int)] s := hK
  refine lv_aload_n hx hb dSC_measuredHeights_15 rfl (lv_at hl 0 rfl) ?_
  refine va_get (D := (dC, dI)) (ci := 0) (v := .ref hh) (C := RSC) (T := TSC) (N := 6) hx hb hz in_SC hown hK hP 0 rfl rfl 2 (by decide) (hz _ wd_152) (fun _ h9 => h9) rfl dSC_measuredHeights_16 ?_
  refine va_get (D := (dC, dI)) (ci := 5) (v := .ref ln) (C := RHE) (T := THE) (N := 1) hx hb hz in_HE hown hK hP 1 rfl rfl 0 (by decide) (hz _ wd_146) (fun _ h9 => h9) rfl dSC_measuredHeights_19 ?_
  subst hQ
  exact zw_aret (D := (dC, dI)) (cl := vwCl) (A := A) gn_1 hx hb hr (Or.inl ⟨_, rfl⟩) hlocks (rfl) (trivial) (zt_sub hP [0, 1, 2, 3, 4, 5] rfl) (hK.sub [] rfl) (zt_subD hD [0, 1, 2, 3, 4, 5] (by decide) rfl) hS dSC_measuredHeights_22

set_option maxHeartbeats 4000000 in
set_option maxRecDepth 100000 in
theorem e_SC_high (l : Launch) (dC : Nat → ClassId) (dI : Nat → Nat → Nat) (T : va_W) (h0 : Nat) (sp : Nat) (gp : Nat) (fx : Nat) (wd : Nat) (hh : Nat) (ln : Nat) (pn : Nat) (kn : ClassId) (gn : Nat → Int32) (g : Nat) (al : Nat) (gr : Nat) (gs : Nat) (bg : Nat) (re : Nat) (t : Nat) (mo : Int32) (y : Int32) (hg : gr ≤ 1000 ∧ gs ≤ 1000 ∧ bg ≤ 1000 ∧ re ≤ 1000) (h12 : re ≤ 12) : zw_Mi (S := (Nat → Int32)) l ySC_high wSC_high ({ frames := 4, cells := 0, slots := 0, locals := 88 }) [.ref h0, .int y] (dC, dI) vwCl ([zob h0 0 [.ref g, .ref wd, .ref hh, .int (nI sp), .int (nI gp), .int (nI fx)], zob hh 5 [.ref ln], zob ln 4 [.ref pn], zar pn kn 12 gn, zob g 1 [.ref al, .int (nI gr), .int (nI gs), .int (nI bg), .int (nI re), .int (nI 0)], zob al 2 [.ref t, .int (nI 0), .int mo]] ++ T) [(kn, .int)] (fun _ _ => True) (fun r (gn2 : Nat → Int32) => True) (fun (gn2 : Nat → Int32) => ([zob h0 0 [.ref g, .ref wd, .ref hh, .int (nI sp), .int (nI gp), .int (nI fx)], zob hh 5 [.ref ln], zob ln 4 [.ref pn], zar pn kn 12 gn2, zob g 1 [.ref al, .int (nI gr), .int (nI gs), .int (nI bg), .int (nI re), .int (nI 0)], zob al 2 [.ref t, .int (nI 0), .int mo]] ++ T)) (fun (gn2 : Nat → Int32) => []) 0 0 := by
  refine zw_headi (cc := cSC_high) (maxL := 2) (ret := (some .int)) (by decide +kernel) rfl (Nat.le_of_ble_eq_true rfl) ?_
  intro p e s m below meth c ls A F hA hP hK hD hS hX hl
  obtain ⟨hx, hb, hml, hr, hlocks, hown, hts⟩ := F
  have hown : s.vm.findClass "SpannedCells" = some m.cls := hown
  have hz : ∀ w9 ∈ zT, w9.before [.ref h0, .int y].toArray s = true := fun w9 h => hts w9 (List.mem_cons_of_mem _ h)
  have hl : lv_has ls 2 [(0, .ref h0), (1, .int y)] := hl
  refine z_q (fun Q hQ => ?_)
  refine lv_iload_n hx hb dSC_high_0 rfl (lv_at hl 1 rfl) ?_
  refine lv_iconst (v := nI 0) hx hb dSC_high_1 (by decide) ?_
  refine lv_aload_n hx hb dSC_high_2 rfl (lv_at hl 0 rfl) ?_
  refine va_get (D := (dC, dI)) (ci := 0) (v := .ref g) (C := RSC) (T := TSC) (N := 6) hx hb hz in_SC hown hK hP 0 rfl rfl 0 (by decide) (hz _ wd_150) (fun _ h9 => h9) rfl dSC_high_3 ?_
  refine vp_callSi (W.runV (As := []) (rest := [.int (nI 0), .int y]) ⟨hx, hb, hml, hown, hz⟩ (e_GR_rowCount l dC dI g al gr gs bg re ) (cwV 0 hz (z_gV wd_399 wd_400 wd_401 wd_30 wd_402) rfl rfl rfl (by decide +kernel) ⟨Nat.le_of_ble_eq_true rfl, Nat.le_of_ble_eq_true rfl⟩) (zr_preV hK (hP.sub [4] rfl) (va_recv (q0 := 4) hK hP (q := (RGR, TGR, 6)) rfl rfl) [] rfl z_true (fun _ _ _ => trivial)) rfl rfl hl.1 rfl (lv_room (Nat.le_of_ble_eq_true rfl)) dSC_high_6 ⟨Nat.le_of_ble_eq_true rfl, Nat.le_of_ble_eq_true rfl⟩) (fun r1 h_r1 => ?_)
  have h_r1 : r1 = nI re := h_r1
  subst h_r1
  refine lv_iconst (v := nI 1) hx hb dSC_high_9 (by decide) ?_
  refine lv_isub hx hb dSC_high_10 ?_
  refine lv_topi (fun x2 e3 => ?_)
  have e3 : x2 = nI re - nI 1 := e3.trans (rfl)
  subst e3
  refine vp_callSi (W.runS (As := [.int y, .int (nI 0), .int (nI re - nI 1)]) (rest := []) ⟨hx, hb, hml, hown, hz⟩ (f_SC_within l dC dI y (nI 0) (nI re - nI 1) ) (va_cwS 3 hz (z_gS wd_219 wd_220 wd_29 wd_221) rfl rfl rfl (by decide +kernel) ⟨Nat.le_of_ble_eq_true rfl, Nat.le_of_ble_eq_true rfl⟩) (zr_preS hK (hP.sub [] rfl) [] rfl z_true (fun _ _ _ => trivial)) rfl rfl hl.1 rfl (lv_room (Nat.le_of_ble_eq_true rfl)) dSC_high_11 ⟨Nat.le_of_ble_eq_true rfl, Nat.le_of_ble_eq_true rfl⟩) (fun ra h_ra => ?_)
  have h_ra : z_yn ra ((nI 0).toInt ≤ y.toInt ∧ y.toInt ≤ (nI re - nI 1).toInt) := h_ra
  have t_a := pk_sub_toInt (a := re) (b := 1) (by omega) (by omega)
  have t_0 := nI_toInt (n := 0) (by omega)
  refine lv_if_ne (tgt := 19) hx hb dSC_high_14 rfl (fun h_b => ?_) (fun h_b => ?_)
  · have h_b := z_yT h_ra h_b
    obtain ⟨y_v, hy_v, rfl⟩ := z_ofIn (c := y) (n := re) (by omega) (by omega) (by omega)
    refine lv_aload_n hx hb dSC_high_19 rfl (lv_at hl 0 rfl) ?_
    refine zw_callTr (wr := []) hK hP hD hS hA [0, 1, 2, 3, 4, 5] [] rfl rfl (by decide) (by decide) (va_runV (As := []) (rest := []) ⟨hx, hb, hml, hown, hz⟩ ((e_SC_measuredHeights l dC dI T h0 sp gp fx wd hh ln pn kn gn g al gr gs bg re t mo (by omega)) s.heap.size) (cwV 0 hz (z_gV wd_531 wd_533 wd_12 wd_29 wd_534) rfl rfl rfl (by decide +kernel) ⟨Nat.le_of_ble_eq_true rfl, Nat.le_of_ble_eq_true rfl⟩) (zw_preVT hK hP hD (va_recv (q0 := 0) hK hP (q := (RSC, TSC, 6)) rfl rfl) [0, 1, 2, 3, 4, 5] (by decide) rfl [0] rfl z_true (fun _ _ _ => trivial)) rfl rfl hl.1 rfl (lv_room (Nat.le_of_ble_eq_true rfl)) dSC_high_20 ⟨Nat.le_of_ble_eq_true rfl, Nat.le_of_ble_eq_true rfl⟩) (fun u H locs h_r6 hP hD hK hS => ?_)
    obtain ⟨gn_5, rfl⟩ : ∃ z, z = u := ⟨_, rfl⟩
    have hP : va_P (dC, dI) vwCl ([zob h0 0 [.ref g, .ref wd, .ref hh, .int (nI sp), .int (nI gp), .int (nI fx)], zob hh 5 [.ref ln], zob ln 4 [.ref pn], zar pn kn 12 gn_5, zob g 1 [.ref al, .int (nI gr), .int (nI gs), .int (nI bg), .int (nI re), .int (nI 0)], zob al 2 [.ref t, .int (nI 0), .int mo]] ++ T) H := zt_sub hP [0, 1, 2, 3, 4, 5] rfl
    have hD : va_D A ([zob h0 0 [.ref g, .ref wd, .ref hh, .int (nI sp), .int (nI gp), .int (nI fx)], zob hh 5 [.ref ln], zob ln 4 [.ref pn], zar pn kn 12 gn_5, zob g 1 [.ref al, .int (nI gr), .int (nI gs), .int (nI bg), .int (nI re), .int (nI 0)], zob al 2 [.ref t, .int (nI 0), .int mo]] ++ T) := zt_subD hD [0, 1, 2, 3, 4, 5] (by decide) rfl
    have hK : va_K (dC, dI) vwCl [(kn, .int)] s := hK
    refine W.eq (g2 := F0 m 23 ls [.ref ln]) rfl ?_
    refine lv_iload_n hx hb dSC_high_23 rfl (lv_at hl 1 rfl) ?_
    refine vp_callSi (W.runV (As := [.int (nI y_v)]) (rest := []) ⟨hx, hb, hml, hown, hz⟩ (f_LI_sizeOf l dC dI ln pn kn gn_5 y_v (by omega)) (cwV 1 hz (z_gV wd_492 wd_493 wd_494 wd_35 wd_495) rfl rfl rfl (by decide +kernel) ⟨Nat.le_of_ble_eq_true rfl, Nat.le_of_ble_eq_true rfl⟩) (zr_preV hK (hP.sub [2, 3] rfl) (va_recv (q0 := 2) hK hP (q := (RLI, TLI, 1)) rfl rfl) [0] rfl z_true (fun _ _ _ => trivial)) rfl rfl hl.1 rfl (lv_room (Nat.le_of_ble_eq_true rfl)) dSC_high_24 ⟨Nat.le_of_ble_eq_true rfl, Nat.le_of_ble_eq_true rfl⟩) (fun r7 h_r7 => ?_)
    subst hQ
    exact zw_iret (D := (dC, dI)) (cl := vwCl) (A := A) gn_5 hx hb hr hlocks (trivial) (zt_sub hP [0, 1, 2, 3, 4, 5] rfl) (hK.sub [] rfl) (zt_subD hD [0, 1, 2, 3, 4, 5] (by decide) rfl) hS dSC_high_27
  · have h_b := z_yF h_ra h_b
    refine lv_iconst (v := (-1)) hx hb dSC_high_17 (by decide) ?_
    subst hQ
    exact zw_iret (D := (dC, dI)) (cl := vwCl) (A := A) gn hx hb hr hlocks (trivial) (zt_sub hP [0, 1, 2, 3, 4, 5] rfl) (hK.sub [] rfl) (zt_subD hD [0, 1, 2, 3, 4, 5] (by decide) rfl) hS dSC_high_18
