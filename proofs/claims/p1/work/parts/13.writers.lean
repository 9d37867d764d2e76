set_option maxHeartbeats 4000000 in
set_option maxRecDepth 100000 in
theorem c_GR_beginGroup (l : Launch) (dC : Nat → ClassId) (dI : Nat → Nat → Nat) (g : Nat) (al : Nat) (ed : Nat) (mo : Int32) : zw_Mi (S := Unit) l yGR_beginGroup wGR_beginGroup ({ frames := 0, cells := 0, slots := 0, locals := 0 }) [.ref g] (dC, dI) vwCl [(g, .inr (1, [.ref al, .int 1, .int 0, .int 0, .int 0, .int 0])), (al, .inr (2, [.ref ed, .int 0, .int mo]))] [] (fun _ _ => True) (fun r (_ : Unit) => r = 2) (fun (_ : Unit) => []) (fun (_ : Unit) => []) 0 0 := by
  refine zw_headi (cc := cGR_beginGroup) (maxL := 1) (ret := (some .int)) (by decide +kernel) rfl (Nat.le_of_ble_eq_true rfl) ?_
  intro p e s m below meth c ls A F hA hP hK hD hS hX hl
  obtain ⟨hx, hb, hml, hr, hlocks, hown, hts⟩ := F
  have hown : s.vm.findClass "SpannedCells$Grid" = some m.cls := hown
  have hz : ∀ w9 ∈ zT, w9.before [.ref g].toArray s = true := fun w9 h => hts w9 (List.mem_cons_of_mem _ h)
  have hl : lv_has ls 1 [(0, .ref g)] := hl
  refine z_q (fun Q hQ => ?_)
  refine lv_aload_n hx hb dGR_beginGroup_0 rfl (lv_at hl 0 rfl) ?_
  refine va_get (D := (dC, dI)) (ci := 1) (v := .int 1) (C := RGR) (T := TGR) (N := 6) hx hb hz in_GR hown hK hP 0 rfl rfl 1 (by decide) (hz _ wd_86) (fun _ h9 => h9) rfl dGR_beginGroup_1 ?_
  refine lv_bipush (v := 8) hx hb dGR_beginGroup_4 (by decide) ?_
  refine lv_icmp_ne (tgt := 11) hx hb dGR_beginGroup_6 rfl (fun _ => ?_) (fun h => absurd h (by decide))
  refine lv_aload_n hx hb dGR_beginGroup_11 rfl (lv_at hl 0 rfl) ?_
  refine lv_dup hx hb dGR_beginGroup_12 rfl ?_
  refine va_get (D := (dC, dI)) (ci := 1) (v := .int 1) (C := RGR) (T := TGR) (N := 6) hx hb hz in_GR hown hK hP 0 rfl rfl 1 (by decide) (hz _ wd_86) (fun _ h9 => h9) rfl dGR_beginGroup_13 ?_
  refine lv_iconst (v := 1) hx hb dGR_beginGroup_16 (by decide) ?_
  refine lv_iadd hx hb dGR_beginGroup_17 ?_
  refine lv_topi (fun x1 e2 => ?_)
  have e2 : x1 = 2 := e2.trans (by decide)
  subst e2
  refine va_put (D := (dC, dI)) (ci := 1) (v := .int 2) (ty := .int) (C := RGR) (T := TGR) (N := 6) hx hb hz in_GR tyGR tokGR nokGR hown hK hP hD hS 0 rfl rfl 1 (by decide) (hz _ wd_86) (fun _ h9 => h9) rfl (by decide +kernel) rfl rfl (Nat.le_of_ble_eq_true rfl) dGR_beginGroup_18 (fun H locs hP hD hS => ?_)
  have hP : va_P (dC, dI) vwCl [(g, .inr (1, [.ref al, .int 2, .int 0, .int 0, .int 0, .int 0])), (al, .inr (2, [.ref ed, .int 0, .int mo]))] H := hP
  have hD : va_D A [(g, .inr (1, [.ref al, .int 2, .int 0, .int 0, .int 0, .int 0])), (al, .inr (2, [.ref ed, .int 0, .int mo]))] := hD
  refine lv_aload_n hx hb dGR_beginGroup_21 rfl (lv_at hl 0 rfl) ?_
  refine lv_aload_n hx hb dGR_beginGroup_22 rfl (lv_at hl 0 rfl) ?_
  refine va_get (D := (dC, dI)) (ci := 1) (v := .int 0) (C := RGR) (T := TGR) (N := 6) hx hb hz in_GR hown hK hP 0 rfl rfl 4 (by decide) (hz _ wd_89) (fun _ h9 => h9) rfl dGR_beginGroup_23 ?_
  refine va_put (D := (dC, dI)) (ci := 1) (v := .int 0) (ty := .int) (C := RGR) (T := TGR) (N := 6) hx hb hz in_GR tyGR tokGR nokGR hown hK hP hD hS 0 rfl rfl 2 (by decide) (hz _ wd_87) (fun _ h9 => h9) rfl (by decide +kernel) rfl rfl (Nat.le_of_ble_eq_true rfl) dGR_beginGroup_26 (fun H locs hP hD hS => ?_)
  have hP : va_P (dC, dI) vwCl [(g, .inr (1, [.ref al, .int 2, .int 0, .int 0, .int 0, .int 0])), (al, .inr (2, [.ref ed, .int 0, .int mo]))] H := hP
  have hD : va_D A [(g, .inr (1, [.ref al, .int 2, .int 0, .int 0, .int 0, .int 0])), (al, .inr (2, [.ref ed, .int 0, .int mo]))] := hD
  refine lv_aload_n hx hb dGR_beginGroup_29 rfl (lv_at hl 0 rfl) ?_
  refine lv_iconst (v := 0) hx hb dGR_beginGroup_30 (by decide) ?_
  refine va_put (D := (dC, dI)) (ci := 1) (v := .int 0) (ty := .int) (C := RGR) (T := TGR) (N := 6) hx hb hz in_GR tyGR tokGR nokGR hown hK hP hD hS 0 rfl rfl 3 (by decide) (hz _ wd_88) (fun _ h9 => h9) rfl (by decide +kernel) rfl rfl (Nat.le_of_ble_eq_true rfl) dGR_beginGroup_31 (fun H locs hP hD hS => ?_)
  have hP : va_P (dC, dI) vwCl [(g, .inr (1, [.ref al, .int 2, .int 0, .int 0, .int 0, .int 0])), (al, .inr (2, [.ref ed, .int 0, .int mo]))] H := hP
  have hD : va_D A [(g, .inr (1, [.ref al, .int 2, .int 0, .int 0, .int 0, .int 0])), (al, .inr (2, [.ref ed, .int 0, .int mo]))] := hD
  refine lv_aload_n hx hb dGR_beginGroup_34 rfl (lv_at hl 0 rfl) ?_
  refine va_get (D := (dC, dI)) (ci := 1) (v := .int 2) (C := RGR) (T := TGR) (N := 6) hx hb hz in_GR hown hK hP 0 rfl rfl 1 (by decide) (hz _ wd_86) (fun _ h9 => h9) rfl dGR_beginGroup_35 ?_
  subst hQ
  exact zw_iret (D := (dC, dI)) (cl := vwCl) (A := A) () hx hb hr hlocks (rfl) (hP.sub [] rfl) (hK.sub [] rfl) (hD.sub [] (by decide) rfl) hS dGR_beginGroup_38

set_option maxHeartbeats 4000000 in
set_option maxRecDepth 100000 in
theorem c_SC_group (l : Launch) (dC : Nat → ClassId) (dI : Nat → Nat → Nat) (h0 : Nat) (g : Nat) (wd : Nat) (hh : Nat) (al : Nat) (ed : Nat) (mo : Int32) : zw_Mi (S := Unit) l ySC_group wSC_group ({ frames := 1, cells := 0, slots := 0, locals := 20 }) [.ref h0] (dC, dI) vwCl [(h0, .inr (0, [.ref g, .ref wd, .ref hh, .int 0, .int 0, .int 0])), (g, .inr (1, [.ref al, .int 1, .int 0, .int 0, .int 0, .int 0])), (al, .inr (2, [.ref ed, .int 0, .int mo]))] [] (fun _ _ => True) (fun r (_ : Unit) => r = 2) (fun (_ : Unit) => []) (fun (_ : Unit) => []) 0 0 := by
  refine zw_headi (cc := cSC_group) (maxL := 1) (ret := (some .int)) (by decide +kernel) rfl (Nat.le_of_ble_eq_true rfl) ?_
  intro p e s m below meth c ls A F hA hP hK hD hS hX hl
  obtain ⟨hx, hb, hml, hr, hlocks, hown, hts⟩ := F
  have hown : s.vm.findClass "SpannedCells" = some m.cls := hown
  have hz : ∀ w9 ∈ zT, w9.before [.ref h0].toArray s = true := fun w9 h => hts w9 (List.mem_cons_of_mem _ h)
  have hl : lv_has ls 1 [(0, .ref h0)] := hl
  refine z_q (fun Q hQ => ?_)
  refine lv_aload_n hx hb dSC_group_0 rfl (lv_at hl 0 rfl) ?_
  refine va_get (D := (dC, dI)) (ci := 0) (v := .ref g) (C := RSC) (T := TSC) (N := 6) hx hb hz in_SC hown hK hP 0 rfl rfl 0 (by decide) (hz _ wd_150) (fun _ h9 => h9) rfl dSC_group_1 ?_
  refine zw_calli (wr := [(h0, .inr (0, [.ref g, .ref wd, .ref hh, .int 0, .int 0, .int 0]))]) hK hP hD hS hA [1, 2] [0] rfl rfl (by decide) (by decide) (va_runV (As := []) (rest := []) ⟨hx, hb, hml, hown, hz⟩ ((c_GR_beginGroup l dC dI g al ed mo ) s.heap.size) (cwV 0 hz (z_gV wd_173 wd_174 wd_175 wd_30 wd_176) rfl rfl rfl (by decide +kernel) ⟨Nat.le_of_ble_eq_true rfl, Nat.le_of_ble_eq_true rfl⟩) (zw_preV (q0 := 1) (q := (RGR, TGR, 6)) hK hP hD rfl rfl [1, 2] (by decide) rfl [] rfl z_true (fun _ _ _ => trivial)) rfl rfl hl.1 rfl (lv_room (Nat.le_of_ble_eq_true rfl)) dSC_group_4 ⟨Nat.le_of_ble_eq_true rfl, Nat.le_of_ble_eq_true rfl⟩) (fun r1 u H locs h_r1 hP hD hK hS => ?_)
  have hP : va_P (dC, dI) vwCl [(h0, .inr (0, [.ref g, .ref wd, .ref hh, .int 0, .int 0, .int 0]))] H := hP.sub [0] rfl
  have hD : va_D A [(h0, .inr (0, [.ref g, .ref wd, .ref hh, .int 0, .int 0, .int 0]))] := hD.sub [0] (by decide) rfl
  have hK : va_K (dC, dI) vwCl [] s := hK
  have h_r1 : r1 = 2 := h_r1
  subst h_r1
  subst hQ
  exact zw_iret (D := (dC, dI)) (cl := vwCl) (A := A) () hx hb hr hlocks (rfl) (hP.sub [] rfl) (hK.sub [] rfl) (hD.sub [] (by decide) rfl) hS dSC_group_7

set_option maxHeartbeats 4000000 in
set_option maxRecDepth 100000 in
theorem c_GR_extendGroupTo (l : Launch) (dC : Nat → ClassId) (dI : Nat → Nat → Nat) (g : Nat) (al : Nat) (ed : Nat) (mo : Int32) : zw_Mv (S := Unit) l yGR_extendGroupTo wGR_extendGroupTo ({ frames := 1, cells := 0, slots := 0, locals := 20 }) [.ref g, .int 1] (dC, dI) vwCl [(g, .inr (1, [.ref al, .int 1, .int 0, .int 1, .int 0, .int 0])), (al, .inr (2, [.ref ed, .int 0, .int mo]))] [] (fun _ _ => True) (fun (_ : Unit) => True) (fun (_ : Unit) => []) (fun (_ : Unit) => []) 0 0 := by
  refine zw_headv (cc := cGR_extendGroupTo) (maxL := 4) (ret := none) (by decide +kernel) rfl (Nat.le_of_ble_eq_true rfl) ?_
  intro p e s m below meth c ls A F hnm hA hP hK hD hS hX hl
  obtain ⟨hx, hb, hml, hr, hlocks, hown, hts⟩ := F
  have hown : s.vm.findClass "SpannedCells$Grid" = some m.cls := hown
  have hz : ∀ w9 ∈ zT, w9.before [.ref g, .int 1].toArray s = true := fun w9 h => hts w9 (List.mem_cons_of_mem _ h)
  have hl : lv_has ls 4 [(0, .ref g), (1, .int 1)] := hl
  refine z_q (fun Q hQ => ?_)
  refine lv_aload_n hx hb dGR_extendGroupTo_0 rfl (lv_at hl 0 rfl) ?_
  refine lv_aload_n hx hb dGR_extendGroupTo_1 rfl (lv_at hl 0 rfl) ?_
  refine va_get (D := (dC, dI)) (ci := 1) (v := .int 0) (C := RGR) (T := TGR) (N := 6) hx hb hz in_GR hown hK hP 0 rfl rfl 4 (by decide) (hz _ wd_89) (fun _ h9 => h9) rfl dGR_extendGroupTo_2 ?_
  refine lv_iload_n hx hb dGR_extendGroupTo_5 rfl (lv_at hl 1 rfl) ?_
  refine va_mmax hx hb (hml.trans hl.1.symm) hown (hz _ wd_189) (hz _ wd_190) (hz _ wd_38) (hz _ wd_191) (Nat.le_of_ble_eq_true rfl) (Nat.le_of_ble_eq_true rfl) (Nat.le_of_ble_eq_true rfl) (Nat.le_of_ble_eq_true rfl) dGR_extendGroupTo_6 ?_
  refine lv_topi (fun x1 e2 => ?_)
  have e2 : x1 = 1 := e2.trans (by decide)
  subst e2
  refine va_put (D := (dC, dI)) (ci := 1) (v := .int 1) (ty := .int) (C := RGR) (T := TGR) (N := 6) hx hb hz in_GR tyGR tokGR nokGR hown hK hP hD hS 0 rfl rfl 4 (by decide) (hz _ wd_89) (fun _ h9 => h9) rfl (by decide +kernel) rfl rfl (Nat.le_of_ble_eq_true rfl) dGR_extendGroupTo_9 (fun H locs hP hD hS => ?_)
  have hP : va_P (dC, dI) vwCl [(g, .inr (1, [.ref al, .int 1, .int 0, .int 1, .int 1, .int 0])), (al, .inr (2, [.ref ed, .int 0, .int mo]))] H := hP
  have hD : va_D A [(g, .inr (1, [.ref al, .int 1, .int 0, .int 1, .int 1, .int 0])), (al, .inr (2, [.ref ed, .int 0, .int mo]))] := hD
  refine lv_iconst (v := 0) hx hb dGR_extendGroupTo_12 (by decide) ?_
  refine lv_istore_n hx hb dGR_extendGroupTo_13 rfl hl (Nat.le_of_ble_eq_true rfl) rfl (fun ls hl => ?_)
  have hl : lv_has ls 4 [(2, .int 0), (0, .ref g), (1, .int 1)] := hl
  refine lv_iload_n hx hb dGR_extendGroupTo_14 rfl (lv_at hl 0 rfl) ?_
  refine lv_aload_n hx hb dGR_extendGroupTo_15 rfl (lv_at hl 1 rfl) ?_
  refine va_get (D := (dC, dI)) (ci := 1) (v := .ref al) (C := RGR) (T := TGR) (N := 6) hx hb hz in_GR hown hK hP 0 rfl rfl 0 (by decide) (hz _ wd_85) (fun _ h9 => h9) rfl dGR_extendGroupTo_16 ?_
  refine vp_callSi (W.runV (As := []) (rest := [.int 0]) ⟨hx, hb, hml, hown, hz⟩ (c_AL_size l dC dI al ed 0 mo ) (cwV 0 hz (z_gV wd_192 wd_193 wd_194 wd_33 wd_195) rfl rfl rfl (by decide +kernel) ⟨Nat.le_of_ble_eq_true rfl, Nat.le_of_ble_eq_true rfl⟩) (zp_preV (q0 := 1) (q := (RAL, TAL, 3)) hK hP rfl rfl [1] rfl [] rfl z_true (fun _ _ _ => trivial)) rfl rfl hl.1 rfl (lv_room (Nat.le_of_ble_eq_true rfl)) dGR_extendGroupTo_19 ⟨Nat.le_of_ble_eq_true rfl, Nat.le_of_ble_eq_true rfl⟩) (fun r3 h_r3 => ?_)
  have h_r3 : r3 = 0 := h_r3
  subst h_r3
  refine lv_icmp_ge (tgt := 62) hx hb dGR_extendGroupTo_22 rfl (fun _ => ?_) (fun h => absurd (by decide) h)
  subst hQ
  exact zw_vret (D := (dC, dI)) (cl := vwCl) (A := A) () hx hb hr hlocks (trivial) (hP.sub [] rfl) (hK.sub [] rfl) (hD.sub [] (by decide) rfl) hS dGR_extendGroupTo_62

set_option maxHeartbeats 4000000 in
set_option maxRecDepth 100000 in
theorem c_GR_beginRow (l : Launch) (dC : Nat → ClassId) (dI : Nat → Nat → Nat) (g : Nat) (al : Nat) (ed : Nat) (mo : Int32) : zw_Mi (S := Unit) l yGR_beginRow wGR_beginRow ({ frames := 2, cells := 0, slots := 0, locals := 43 }) [.ref g] (dC, dI) vwCl [(g, .inr (1, [.ref al, .int 1, .int 0, .int 0, .int 0, .int 0])), (al, .inr (2, [.ref ed, .int 0, .int mo]))] [] (fun _ _ => True) (fun r (_ : Unit) => r = 0) (fun (_ : Unit) => []) (fun (_ : Unit) => []) 0 0 := by
  refine zw_headi (cc := cGR_beginRow) (maxL := 2) (ret := (some .int)) (by decide +kernel) rfl (Nat.le_of_ble_eq_true rfl) ?_
  intro p e s m below meth c ls A F hA hP hK hD hS hX hl
  obtain ⟨hx, hb, hml, hr, hlocks, hown, hts⟩ := F
  have hown : s.vm.findClass "SpannedCells$Grid" = some m.cls := hown
  have hz : ∀ w9 ∈ zT, w9.before [.ref g].toArray s = true := fun w9 h => hts w9 (List.mem_cons_of_mem _ h)
  have hl : lv_has ls 2 [(0, .ref g)] := hl
  refine z_q (fun Q hQ => ?_)
  refine lv_aload_n hx hb dGR_beginRow_0 rfl (lv_at hl 0 rfl) ?_
  refine va_get (D := (dC, dI)) (ci := 1) (v := .int 0) (C := RGR) (T := TGR) (N := 6) hx hb hz in_GR hown hK hP 0 rfl rfl 2 (by decide) (hz _ wd_87) (fun _ h9 => h9) rfl dGR_beginRow_1 ?_
  refine lv_aload_n hx hb dGR_beginRow_4 rfl (lv_at hl 0 rfl) ?_
  refine va_get (D := (dC, dI)) (ci := 1) (v := .int 0) (C := RGR) (T := TGR) (N := 6) hx hb hz in_GR hown hK hP 0 rfl rfl 3 (by decide) (hz _ wd_88) (fun _ h9 => h9) rfl dGR_beginRow_5 ?_
  refine lv_iadd hx hb dGR_beginRow_8 ?_
  refine lv_topi (fun x1 e2 => ?_)
  have e2 : x1 = 0 := e2.trans (by decide)
  subst e2
  refine lv_istore_n hx hb dGR_beginRow_9 rfl hl (Nat.le_of_ble_eq_true rfl) rfl (fun ls hl => ?_)
  have hl : lv_has ls 2 [(1, .int 0), (0, .ref g)] := hl
  refine lv_iload_n hx hb dGR_beginRow_10 rfl (lv_at hl 0 rfl) ?_
  refine lv_bipush (v := 12) hx hb dGR_beginRow_11 (by decide) ?_
  refine lv_icmp_lt (tgt := 18) hx hb dGR_beginRow_13 rfl (fun _ => ?_) (fun h => absurd (by decide) h)
  refine lv_aload_n hx hb dGR_beginRow_18 rfl (lv_at hl 1 rfl) ?_
  refine lv_dup hx hb dGR_beginRow_19 rfl ?_
  refine va_get (D := (dC, dI)) (ci := 1) (v := .int 0) (C := RGR) (T := TGR) (N := 6) hx hb hz in_GR hown hK hP 0 rfl rfl 3 (by decide) (hz _ wd_88) (fun _ h9 => h9) rfl dGR_beginRow_20 ?_
  refine lv_iconst (v := 1) hx hb dGR_beginRow_23 (by decide) ?_
  refine lv_iadd hx hb dGR_beginRow_24 ?_
  refine lv_topi (fun x3 e4 => ?_)
  have e4 : x3 = 1 := e4.trans (by decide)
  subst e4
  refine va_put (D := (dC, dI)) (ci := 1) (v := .int 1) (ty := .int) (C := RGR) (T := TGR) (N := 6) hx hb hz in_GR tyGR tokGR nokGR hown hK hP hD hS 0 rfl rfl 3 (by decide) (hz _ wd_88) (fun _ h9 => h9) rfl (by decide +kernel) rfl rfl (Nat.le_of_ble_eq_true rfl) dGR_beginRow_25 (fun H locs hP hD hS => ?_)
  have hP : va_P (dC, dI) vwCl [(g, .inr (1, [.ref al, .int 1, .int 0, .int 1, .int 0, .int 0])), (al, .inr (2, [.ref ed, .int 0, .int mo]))] H := hP
  have hD : va_D A [(g, .inr (1, [.ref al, .int 1, .int 0, .int 1, .int 0, .int 0])), (al, .inr (2, [.ref ed, .int 0, .int mo]))] := hD
  refine lv_aload_n hx hb dGR_beginRow_28 rfl (lv_at hl 1 rfl) ?_
  refine lv_iload_n hx hb dGR_beginRow_29 rfl (lv_at hl 0 rfl) ?_
  refine lv_iconst (v := 1) hx hb dGR_beginRow_30 (by decide) ?_
  refine lv_iadd hx hb dGR_beginRow_31 ?_
  refine lv_topi (fun x5 e6 => ?_)
  have e6 : x5 = 1 := e6.trans (by decide)
  subst e6
  refine zw_callv (wr := []) hK hP hD hS hA [0, 1] [] rfl rfl (by decide) (by decide) (va_runV (As := [.int 1]) (rest := []) ⟨hx, hb, hml, hown, hz⟩ ((c_GR_extendGroupTo l dC dI g al ed mo ) H.size) (cwV 1 hz (z_gV wd_185 wd_187 wd_0 wd_30 wd_188) rfl rfl rfl (by decide +kernel) ⟨Nat.le_of_ble_eq_true rfl, Nat.le_of_ble_eq_true rfl⟩) (zw_preV (q0 := 0) (q := (RGR, TGR, 6)) hK hP hD rfl rfl [0, 1] (by decide) rfl [] rfl z_true (fun _ _ _ => trivial)) rfl rfl hl.1 rfl (lv_room (Nat.le_of_ble_eq_true rfl)) dGR_beginRow_32 ⟨Nat.le_of_ble_eq_true rfl, Nat.le_of_ble_eq_true rfl⟩) (fun u H locs h_r7 hP hD hK hS => ?_)
  have hP : va_P (dC, dI) vwCl [] H := hP.sub [] rfl
  have hD : va_D A [] := hD.sub [] (by decide) rfl
  have hK : va_K (dC, dI) vwCl [] s := hK
  refine lv_iload_n hx hb dGR_beginRow_35 rfl (lv_at hl 0 rfl) ?_
  subst hQ
  exact zw_iret (D := (dC, dI)) (cl := vwCl) (A := A) () hx hb hr hlocks (rfl) (hP.sub [] rfl) (hK.sub [] rfl) (hD.sub [] (by decide) rfl) hS dGR_beginRow_36

set_option maxHeartbeats 4000000 in
set_option maxRecDepth 100000 in
theorem c_SC_row (l : Launch) (dC : Nat → ClassId) (dI : Nat → Nat → Nat) (h0 : Nat) (g : Nat) (wd : Nat) (hh : Nat) (al : Nat) (ed : Nat) (mo : Int32) : zw_Mi (S := Unit) l ySC_row wSC_row ({ frames := 3, cells := 0, slots := 0, locals := 64 }) [.ref h0] (dC, dI) vwCl [(h0, .inr (0, [.ref g, .ref wd, .ref hh, .int 0, .int 0, .int 0])), (g, .inr (1, [.ref al, .int 1, .int 0, .int 0, .int 0, .int 0])), (al, .inr (2, [.ref ed, .int 0, .int mo]))] [] (fun _ _ => True) (fun r (_ : Unit) => r = 0) (fun (_ : Unit) => []) (fun (_ : Unit) => []) 0 0 := by
  refine zw_headi (cc := cSC_row) (maxL := 1) (ret := (some .int)) (by decide +kernel) rfl (Nat.le_of_ble_eq_true rfl) ?_
  intro p e s m below meth c ls A F hA hP hK hD hS hX hl
  obtain ⟨hx, hb, hml, hr, hlocks, hown, hts⟩ := F
  have hown : s.vm.findClass "SpannedCells" = some m.cls := hown
  have hz : ∀ w9 ∈ zT, w9.before [.ref h0].toArray s = true := fun w9 h => hts w9 (List.mem_cons_of_mem _ h)
  have hl : lv_has ls 1 [(0, .ref h0)] := hl
  refine z_q (fun Q hQ => ?_)
  refine lv_aload_n hx hb dSC_row_0 rfl (lv_at hl 0 rfl) ?_
  refine va_get (D := (dC, dI)) (ci := 0) (v := .ref g) (C := RSC) (T := TSC) (N := 6) hx hb hz in_SC hown hK hP 0 rfl rfl 0 (by decide) (hz _ wd_150) (fun _ h9 => h9) rfl dSC_row_1 ?_
  refine zw_calli (wr := [(h0, .inr (0, [.ref g, .ref wd, .ref hh, .int 0, .int 0, .int 0]))]) hK hP hD hS hA [1, 2] [0] rfl rfl (by decide) (by decide) (va_runV (As := []) (rest := []) ⟨hx, hb, hml, hown, hz⟩ ((c_GR_beginRow l dC dI g al ed mo ) s.heap.size) (cwV 0 hz (z_gV wd_181 wd_182 wd_183 wd_30 wd_184) rfl rfl rfl (by decide +kernel) ⟨Nat.le_of_ble_eq_true rfl, Nat.le_of_ble_eq_true rfl⟩) (zw_preV (q0 := 1) (q := (RGR, TGR, 6)) hK hP hD rfl rfl [1, 2] (by decide) rfl [] rfl z_true (fun _ _ _ => trivial)) rfl rfl hl.1 rfl (lv_room (Nat.le_of_ble_eq_true rfl)) dSC_row_4 ⟨Nat.le_of_ble_eq_true rfl, Nat.le_of_ble_eq_true rfl⟩) (fun r1 u H locs h_r1 hP hD hK hS => ?_)
  have hP : va_P (dC, dI) vwCl [(h0, .inr (0, [.ref g, .ref wd, .ref hh, .int 0, .int 0, .int 0]))] H := hP.sub [0] rfl
  have hD : va_D A [(h0, .inr (0, [.ref g, .ref wd, .ref hh, .int 0, .int 0, .int 0]))] := hD.sub [0] (by decide) rfl
  have hK : va_K (dC, dI) vwCl [] s := hK
  have h_r1 : r1 = 0 := h_r1
  subst h_r1
  subst hQ
  exact zw_iret (D := (dC, dI)) (cl := vwCl) (A := A) () hx hb hr hlocks (rfl) (hP.sub [] rfl) (hK.sub [] rfl) (hD.sub [] (by decide) rfl) hS dSC_row_7

set_option maxHeartbeats 4000000 in
set_option maxRecDepth 100000 in
theorem c_AL_clear (l : Launch) (dC : Nat → ClassId) (dI : Nat → Nat → Nat) (al : Nat) (ed : Nat) (mo : Int32) : zw_Mv (S := Unit) l yAL_clear wAL_clear ({ frames := 0, cells := 0, slots := 0, locals := 0 }) [.ref al] (dC, dI) vwCl [(al, .inr (2, [.ref ed, .int 0, .int mo]))] [] (fun _ _ => True) (fun (_ : Unit) => True) (fun (_ : Unit) => []) (fun (_ : Unit) => []) 0 0 := by
  refine zw_headv (cc := cAL_clear) (maxL := 4) (ret := none) (by decide +kernel) rfl (Nat.le_of_ble_eq_true rfl) ?_
  intro p e s m below meth c ls A F hnm hA hP hK hD hS hX hl
  obtain ⟨hx, hb, hml, hr, hlocks, hown, hts⟩ := F
  have hown : s.vm.findClass "java/util/ArrayList" = some m.cls := hown
  have hz : ∀ w9 ∈ zT, w9.before [.ref al].toArray s = true := fun w9 h => hts w9 (List.mem_cons_of_mem _ h)
  have hl : lv_has ls 4 [(0, .ref al)] := hl
  refine z_q (fun Q hQ => ?_)
  refine lv_aload_n hx hb dAL_clear_0 rfl (lv_at hl 0 rfl) ?_
  refine lv_dup hx hb dAL_clear_1 rfl ?_
  refine va_get (D := (dC, dI)) (ci := 2) (v := .int mo) (C := RAL) (T := TAL) (N := 3) hx hb hz in_AL hown hK hP 0 rfl rfl 2 (by decide) (hz _ wd_76) (fun x9 h9 => u_same (hz _ wd_77) x9 h9) rfl dAL_clear_2 ?_
  refine lv_iconst (v := 1) hx hb dAL_clear_5 (by decide) ?_
  refine lv_iadd hx hb dAL_clear_6 ?_
  refine va_put (D := (dC, dI)) (ci := 2) (v := .int (mo + 1)) (ty := .int) (C := RAL) (T := TAL) (N := 3) hx hb hz in_AL tyAL tokAL nokAL hown hK hP hD hS 0 rfl rfl 2 (by decide) (hz _ wd_76) (fun x9 h9 => u_same (hz _ wd_77) x9 h9) rfl (by decide +kernel) rfl rfl (Nat.le_of_ble_eq_true rfl) dAL_clear_7 (fun H locs hP hD hS => ?_)
  have hP : va_P (dC, dI) vwCl [(al, .inr (2, [.ref ed, .int 0, .int (mo + 1)]))] H := hP
  have hD : va_D A [(al, .inr (2, [.ref ed, .int 0, .int (mo + 1)]))] := hD
  refine lv_aload_n hx hb dAL_clear_10 rfl (lv_at hl 0 rfl) ?_
  refine va_get (D := (dC, dI)) (ci := 2) (v := .ref ed) (C := RAL) (T := TAL) (N := 3) hx hb hz in_AL hown hK hP 0 rfl rfl 0 (by decide) (hz _ wd_73) (fun _ h9 => h9) rfl dAL_clear_11 ?_
  refine lv_astore_n hx hb dAL_clear_14 rfl hl (Nat.le_of_ble_eq_true rfl) rfl (fun ls hl => ?_)
  have hl : lv_has ls 4 [(1, .ref ed), (0, .ref al)] := hl
  refine lv_aload_n hx hb dAL_clear_15 rfl (lv_at hl 1 rfl) ?_
  refine va_get (D := (dC, dI)) (ci := 2) (v := .int 0) (C := RAL) (T := TAL) (N := 3) hx hb hz in_AL hown hK hP 0 rfl rfl 1 (by decide) (hz _ wd_74) (fun _ h9 => h9) rfl dAL_clear_16 ?_
  refine lv_istore_n hx hb dAL_clear_19 rfl hl (Nat.le_of_ble_eq_true rfl) rfl (fun ls hl => ?_)
  have hl : lv_has ls 4 [(2, .int 0), (1, .ref ed), (0, .ref al)] := hl
  refine lv_aload_n hx hb dAL_clear_20 rfl (lv_at hl 2 rfl) ?_
  refine lv_iconst (v := 0) hx hb dAL_clear_21 (by decide) ?_
  refine lv_dup_x1 hx hb dAL_clear_22 rfl rfl ?_
  refine va_put (D := (dC, dI)) (ci := 2) (v := .int 0) (ty := .int) (C := RAL) (T := TAL) (N := 3) hx hb hz in_AL tyAL tokAL nokAL hown hK hP hD hS 0 rfl rfl 1 (by decide) (hz _ wd_74) (fun _ h9 => h9) rfl (by decide +kernel) rfl rfl (Nat.le_of_ble_eq_true rfl) dAL_clear_23 (fun H locs hP hD hS => ?_)
  have hP : va_P (dC, dI) vwCl [(al, .inr (2, [.ref ed, .int 0, .int (mo + 1)]))] H := hP
  have hD : va_D A [(al, .inr (2, [.ref ed, .int 0, .int (mo + 1)]))] := hD
  refine lv_istore_n hx hb dAL_clear_26 rfl hl (Nat.le_of_ble_eq_true rfl) rfl (fun ls hl => ?_)
  have hl : lv_has ls 4 [(3, .int 0), (2, .int 0), (1, .ref ed), (0, .ref al)] := hl
  refine lv_iload_n hx hb dAL_clear_27 rfl (lv_at hl 0 rfl) ?_
  refine lv_iload_n hx hb dAL_clear_28 rfl (lv_at hl 1 rfl) ?_
  refine lv_icmp_ge (tgt := 42) hx hb dAL_clear_29 rfl (fun _ => ?_) (fun h => absurd (by decide) h)
  subst hQ
  exact zw_vret (D := (dC, dI)) (cl := vwCl) (A := A) () hx hb hr hlocks (trivial) (hP.sub [] rfl) (hK.sub [] rfl) (hD.sub [] (by decide) rfl) hS dAL_clear_42

set_option maxHeartbeats 4000000 in
set_option maxRecDepth 100000 in
theorem c_GR_empty (l : Launch) (dC : Nat → ClassId) (dI : Nat → Nat → Nat) (g : Nat) (al : Nat) (ed : Nat) (mo : Int32) : zw_Mv (S := Unit) l yGR_empty wGR_empty ({ frames := 1, cells := 0, slots := 0, locals := 23 }) [.ref g] (dC, dI) vwCl [(g, .inr (1, [.ref al, .int 1, .int 0, .int 0, .int 0, .int 0])), (al, .inr (2, [.ref ed, .int 0, .int mo]))] [] (fun _ _ => True) (fun (_ : Unit) => True) (fun (_ : Unit) => []) (fun (_ : Unit) => []) 0 0 := by
  refine zw_headv (cc := cGR_empty) (maxL := 1) (ret := none) (by decide +kernel) rfl (Nat.le_of_ble_eq_true rfl) ?_
  intro p e s m below meth c ls A F hnm hA hP hK hD hS hX hl
  obtain ⟨hx, hb, hml, hr, hlocks, hown, hts⟩ := F
  have hown : s.vm.findClass "SpannedCells$Grid" = some m.cls := hown
  have hz : ∀ w9 ∈ zT, w9.before [.ref g].toArray s = true := fun w9 h => hts w9 (List.mem_cons_of_mem _ h)
  have hl : lv_has ls 1 [(0, .ref g)] := hl
  refine z_q (fun Q hQ => ?_)
  refine lv_aload_n hx hb dGR_empty_0 rfl (lv_at hl 0 rfl) ?_
  refine va_get (D := (dC, dI)) (ci := 1) (v := .ref al) (C := RGR) (T := TGR) (N := 6) hx hb hz in_GR hown hK hP 0 rfl rfl 0 (by decide) (hz _ wd_85) (fun _ h9 => h9) rfl dGR_empty_1 ?_
  refine zw_callv (wr := [(g, .inr (1, [.ref al, .int 1, .int 0, .int 0, .int 0, .int 0]))]) hK hP hD hS hA [1] [0] rfl rfl (by decide) (by decide) (va_runV (As := []) (rest := []) ⟨hx, hb, hml, hown, hz⟩ ((c_AL_clear l dC dI al ed mo ) s.heap.size) (cwV 0 hz (z_gV wd_383 wd_384 wd_385 wd_33 wd_386) rfl rfl rfl (by decide +kernel) ⟨Nat.le_of_ble_eq_true rfl, Nat.le_of_ble_eq_true rfl⟩) (zw_preV (q0 := 1) (q := (RAL, TAL, 3)) hK hP hD rfl rfl [1] (by decide) rfl [] rfl z_true (fun _ _ _ => trivial)) rfl rfl hl.1 rfl (lv_room (Nat.le_of_ble_eq_true rfl)) dGR_empty_4 ⟨Nat.le_of_ble_eq_true rfl, Nat.le_of_ble_eq_true rfl⟩) (fun u H locs h_r1 hP hD hK hS => ?_)
  have hP : va_P (dC, dI) vwCl [(g, .inr (1, [.ref al, .int 1, .int 0, .int 0, .int 0, .int 0]))] H := hP.sub [0] rfl
  have hD : va_D A [(g, .inr (1, [.ref al, .int 1, .int 0, .int 0, .int 0, .int 0]))] := hD.sub [0] (by decide) rfl
  have hK : va_K (dC, dI) vwCl [] s := hK
  refine lv_aload_n hx hb dGR_empty_7 rfl (lv_at hl 0 rfl) ?_
  refine lv_iconst (v := 1) hx hb dGR_empty_8 (by decide) ?_
  refine va_put (D := (dC, dI)) (ci := 1) (v := .int 1) (ty := .int) (C := RGR) (T := TGR) (N := 6) hx hb hz in_GR tyGR tokGR nokGR hown hK hP hD hS 0 rfl rfl 1 (by decide) (hz _ wd_86) (fun _ h9 => h9) rfl (by decide +kernel) rfl rfl (Nat.le_of_ble_eq_true rfl) dGR_empty_9 (fun H locs hP hD hS => ?_)
  have hP : va_P (dC, dI) vwCl [(g, .inr (1, [.ref al, .int 1, .int 0, .int 0, .int 0, .int 0]))] H := hP
  have hD : va_D A [(g, .inr (1, [.ref al, .int 1, .int 0, .int 0, .int 0, .int 0]))] := hD
  refine lv_aload_n hx hb dGR_empty_12 rfl (lv_at hl 0 rfl) ?_
  refine lv_iconst (v := 0) hx hb dGR_empty_13 (by decide) ?_
  refine va_put (D := (dC, dI)) (ci := 1) (v := .int 0) (ty := .int) (C := RGR) (T := TGR) (N := 6) hx hb hz in_GR tyGR tokGR nokGR hown hK hP hD hS 0 rfl rfl 2 (by decide) (hz _ wd_87) (fun _ h9 => h9) rfl (by decide +kernel) rfl rfl (Nat.le_of_ble_eq_true rfl) dGR_empty_14 (fun H locs hP hD hS => ?_)
  have hP : va_P (dC, dI) vwCl [(g, .inr (1, [.ref al, .int 1, .int 0, .int 0, .int 0, .int 0]))] H := hP
  have hD : va_D A [(g, .inr (1, [.ref al, .int 1, .int 0, .int 0, .int 0, .int 0]))] := hD
  refine lv_aload_n hx hb dGR_empty_17 rfl (lv_at hl 0 rfl) ?_
  refine lv_iconst (v := 0) hx hb dGR_empty_18 (by decide) ?_
  refine va_put (D := (dC, dI)) (ci := 1) (v := .int 0) (ty := .int) (C := RGR) (T := TGR) (N := 6) hx hb hz in_GR tyGR tokGR nokGR hown hK hP hD hS 0 rfl rfl 3 (by decide) (hz _ wd_88) (fun _ h9 => h9) rfl (by decide +kernel) rfl rfl (Nat.le_of_ble_eq_true rfl) dGR_empty_19 (fun H locs hP hD hS => ?_)
  have hP : va_P (dC, dI) vwCl [(g, .inr (1, [.ref al, .int 1, .int 0, .int 0, .int 0, .int 0]))] H := hP
  have hD : va_D A [(g, .inr (1, [.ref al, .int 1, .int 0, .int 0, .int 0, .int 0]))] := hD
  refine lv_aload_n hx hb dGR_empty_22 rfl (lv_at hl 0 rfl) ?_
  refine lv_iconst (v := 0) hx hb dGR_empty_23 (by decide) ?_
  refine va_put (D := (dC, dI)) (ci := 1) (v := .int 0) (ty := .int) (C := RGR) (T := TGR) (N := 6) hx hb hz in_GR tyGR tokGR nokGR hown hK hP hD hS 0 rfl rfl 4 (by decide) (hz _ wd_89) (fun _ h9 => h9) rfl (by decide +kernel) rfl rfl (Nat.le_of_ble_eq_true rfl) dGR_empty_24 (fun H locs hP hD hS => ?_)
  have hP : va_P (dC, dI) vwCl [(g, .inr (1, [.ref al, .int 1, .int 0, .int 0, .int 0, .int 0]))] H := hP
  have hD : va_D A [(g, .inr (1, [.ref al, .int 1, .int 0, .int 0, .int 0, .int 0]))] := hD
  refine lv_aload_n hx hb dGR_empty_27 rfl (lv_at hl 0 rfl) ?_
  refine lv_iconst (v := 0) hx hb dGR_empty_28 (by decide) ?_
  refine va_put (D := (dC, dI)) (ci := 1) (v := .int 0) (ty := .int) (C := RGR) (T := TGR) (N := 6) hx hb hz in_GR tyGR tokGR nokGR hown hK hP hD hS 0 rfl rfl 5 (by decide) (hz _ wd_90) (fun _ h9 => h9) rfl (by decide +kernel) rfl rfl (Nat.le_of_ble_eq_true rfl) dGR_empty_29 (fun H locs hP hD hS => ?_)
  have hP : va_P (dC, dI) vwCl [(g, .inr (1, [.ref al, .int 1, .int 0, .int 0, .int 0, .int 0]))] H := hP
  have hD : va_D A [(g, .inr (1, [.ref al, .int 1, .int 0, .int 0, .int 0, .int 0]))] := hD
  subst hQ
  exact zw_vret (D := (dC, dI)) (cl := vwCl) (A := A) () hx hb hr hlocks (trivial) (hP.sub [] rfl) (hK.sub [] rfl) (hD.sub [] (by decide) rfl) hS dGR_empty_32

set_option maxHeartbeats 4000000 in
set_option maxRecDepth 100000 in
theorem c_SC_clear (l : Launch) (dC : Nat → ClassId) (dI : Nat → Nat → Nat) (h0 : Nat) (g : Nat) (wd : Nat) (hh : Nat) (al : Nat) (ed : Nat) (mo : Int32) : zw_Mi (S := Unit) l ySC_clear wSC_clear ({ frames := 2, cells := 0, slots := 0, locals := 43 }) [.ref h0] (dC, dI) vwCl [(h0, .inr (0, [.ref g, .ref wd, .ref hh, .int 0, .int 0, .int 0])), (g, .inr (1, [.ref al, .int 1, .int 0, .int 0, .int 0, .int 0])), (al, .inr (2, [.ref ed, .int 0, .int mo]))] [] (fun _ _ => True) (fun r (_ : Unit) => r = 0) (fun (_ : Unit) => []) (fun (_ : Unit) => []) 0 0 := by
  refine zw_headi (cc := cSC_clear) (maxL := 2) (ret := (some .int)) (by decide +kernel) rfl (Nat.le_of_ble_eq_true rfl) ?_
  intro p e s m below meth c ls A F hA hP hK hD hS hX hl
  obtain ⟨hx, hb, hml, hr, hlocks, hown, hts⟩ := F
  have hown : s.vm.findClass "SpannedCells" = some m.cls := hown
  have hz : ∀ w9 ∈ zT, w9.before [.ref h0].toArray s = true := fun w9 h => hts w9 (List.mem_cons_of_mem _ h)
  have hl : lv_has ls 2 [(0, .ref h0)] := hl
  refine z_q (fun Q hQ => ?_)
  refine lv_aload_n hx hb dSC_clear_0 rfl (lv_at hl 0 rfl) ?_
  refine va_get (D := (dC, dI)) (ci := 0) (v := .ref g) (C := RSC) (T := TSC) (N := 6) hx hb hz in_SC hown hK hP 0 rfl rfl 0 (by decide) (hz _ wd_150) (fun _ h9 => h9) rfl dSC_clear_1 ?_
  refine vp_callSi (W.runV (As := []) (rest := []) ⟨hx, hb, hml, hown, hz⟩ (c_GR_cellCount l dC dI g al ed 0 mo 1 0 0 0 0 ) (cwV 0 hz (z_gV wd_375 wd_376 wd_377 wd_30 wd_378) rfl rfl rfl (by decide +kernel) ⟨Nat.le_of_ble_eq_true rfl, Nat.le_of_ble_eq_true rfl⟩) (zp_preV (q0 := 1) (q := (RGR, TGR, 6)) hK hP rfl rfl [1, 2] rfl [] rfl z_true (fun _ _ _ => trivial)) rfl rfl hl.1 rfl (lv_room (Nat.le_of_ble_eq_true rfl)) dSC_clear_4 ⟨Nat.le_of_ble_eq_true rfl, Nat.le_of_ble_eq_true rfl⟩) (fun r1 h_r1 => ?_)
  have h_r1 : r1 = 0 := h_r1
  subst h_r1
  refine lv_istore_n hx hb dSC_clear_7 rfl hl (Nat.le_of_ble_eq_true rfl) rfl (fun ls hl => ?_)
  have hl : lv_has ls 2 [(1, .int 0), (0, .ref h0)] := hl
  refine lv_aload_n hx hb dSC_clear_8 rfl (lv_at hl 1 rfl) ?_
  refine va_get (D := (dC, dI)) (ci := 0) (v := .ref g) (C := RSC) (T := TSC) (N := 6) hx hb hz in_SC hown hK hP 0 rfl rfl 0 (by decide) (hz _ wd_150) (fun _ h9 => h9) rfl dSC_clear_9 ?_
  refine zw_callv (wr := [(h0, .inr (0, [.ref g, .ref wd, .ref hh, .int 0, .int 0, .int 0]))]) hK hP hD hS hA [1, 2] [0] rfl rfl (by decide) (by decide) (va_runV (As := []) (rest := []) ⟨hx, hb, hml, hown, hz⟩ ((c_GR_empty l dC dI g al ed mo ) s.heap.size) (cwV 0 hz (z_gV wd_379 wd_380 wd_381 wd_30 wd_382) rfl rfl rfl (by decide +kernel) ⟨Nat.le_of_ble_eq_true rfl, Nat.le_of_ble_eq_true rfl⟩) (zw_preV (q0 := 1) (q := (RGR, TGR, 6)) hK hP hD rfl rfl [1, 2] (by decide) rfl [] rfl z_true (fun _ _ _ => trivial)) rfl rfl hl.1 rfl (lv_room (Nat.le_of_ble_eq_true rfl)) dSC_clear_12 ⟨Nat.le_of_ble_eq_true rfl, Nat.le_of_ble_eq_true rfl⟩) (fun u H locs h_r2 hP hD hK hS => ?_)
  have hP : va_P (dC, dI) vwCl [(h0, .inr (0, [.ref g, .ref wd, .ref hh, .int 0, .int 0, .int 0]))] H := hP.sub [0] rfl
  have hD : va_D A [(h0, .inr (0, [.ref g, .ref wd, .ref hh, .int 0, .int 0, .int 0]))] := hD.sub [0] (by decide) rfl
  have hK : va_K (dC, dI) vwCl [] s := hK
  refine lv_iload_n hx hb dSC_clear_15 rfl (lv_at hl 0 rfl) ?_
  subst hQ
  exact zw_iret (D := (dC, dI)) (cl := vwCl) (A := A) () hx hb hr hlocks (rfl) (hP.sub [] rfl) (hK.sub [] rfl) (hD.sub [] (by decide) rfl) hS dSC_clear_16

set_option maxHeartbeats 4000000 in
set_option maxRecDepth 100000 in
theorem c_SC_layout (l : Launch) (dC : Nat → ClassId) (dI : Nat → Nat → Nat) (h0 : Nat) (g : Nat) (wd : Nat) (hh : Nat) (al : Nat) (ed : Nat) (mo : Int32) (a : Int32) (b : Int32) (f : Int32) (hf : f = 0 ∨ f = 1) : zw_Mi (S := Unit) l ySC_layout wSC_layout ({ frames := 1, cells := 0, slots := 0, locals := 22 }) [.ref h0, .int a, .int b, .int f] (dC, dI) vwCl [(h0, .inr (0, [.ref g, .ref wd, .ref hh, .int 0, .int 0, .int 0])), (g, .inr (1, [.ref al, .int 1, .int 0, .int 0, .int 0, .int 0])), (al, .inr (2, [.ref ed, .int 0, .int mo]))] [] (fun _ _ => True) (fun r (_ : Unit) => (r = 1 ∧ ((0 ≤ a ∧ a ≤ 10000) ∧ (0 ≤ b ∧ b ≤ 20))) ∨ (r = 0 ∧ ¬ ((0 ≤ a ∧ a ≤ 10000) ∧ (0 ≤ b ∧ b ≤ 20)))) (fun (_ : Unit) => []) (fun (_ : Unit) => []) 0 0 := by
  refine zw_headi (cc := cSC_layout) (maxL := 4) (ret := (some .boolean)) (by decide +kernel) rfl (Nat.le_of_ble_eq_true rfl) ?_
  intro p e s m below meth c ls A F hA hP hK hD hS hX hl
  obtain ⟨hx, hb, hml, hr, hlocks, hown, hts⟩ := F
  have hown : s.vm.findClass "SpannedCells" = some m.cls := hown
  have hz : ∀ w9 ∈ zT, w9.before [.ref h0, .int a, .int b, .int f].toArray s = true := fun w9 h => hts w9 (List.mem_cons_of_mem _ h)
  have hl : lv_has ls 4 [(0, .ref h0), (1, .int a), (2, .int b), (3, .int f)] := hl
  refine z_q (fun Q hQ => ?_)
  refine lv_iload_n hx hb dSC_layout_0 rfl (lv_at hl 1 rfl) ?_
  refine lv_iconst (v := 0) hx hb dSC_layout_1 (by decide) ?_
  refine lv_sipush (v := 10000) hx hb dSC_layout_2 (by decide) ?_
  refine vp_callSi (W.runS (As := [.int a, .int 0, .int 10000]) (rest := []) ⟨hx, hb, hml, hown, hz⟩ (c_SC_within l dC dI a 0 10000 ) (va_cwS 3 hz (z_gS wd_219 wd_220 wd_29 wd_221) rfl rfl rfl (by decide +kernel) ⟨Nat.le_of_ble_eq_true rfl, Nat.le_of_ble_eq_true rfl⟩) (zp_preS hK hP [] rfl [] rfl z_true (fun _ _ _ => trivial)) rfl rfl hl.1 rfl (lv_room (Nat.le_of_ble_eq_true rfl)) dSC_layout_5 ⟨Nat.le_of_ble_eq_true rfl, Nat.le_of_ble_eq_true rfl⟩) (fun ra h_ra => ?_)
  refine lv_if_eq (tgt := 21) hx hb dSC_layout_8 rfl (fun h1 => ?_) (fun h1 => ?_)
  · refine lv_iconst (v := 0) hx hb dSC_layout_21 (by decide) ?_
    subst hQ
    exact zw_zret (D := (dC, dI)) (cl := vwCl) (A := A) () hx hb hr hlocks (Or.inl rfl) (Or.inr ⟨rfl, fun h => z_wF h_ra h1 h.1⟩) (hP.sub [] rfl) (hK.sub [] rfl) (hD.sub [] (by decide) rfl) hS dSC_layout_22
  · refine lv_iload_n hx hb dSC_layout_11 rfl (lv_at hl 2 rfl) ?_
    refine lv_iconst (v := 0) hx hb dSC_layout_12 (by decide) ?_
    refine lv_bipush (v := 20) hx hb dSC_layout_13 (by decide) ?_
    refine vp_callSi (W.runS (As := [.int b, .int 0, .int 20]) (rest := []) ⟨hx, hb, hml, hown, hz⟩ (c_SC_within l dC dI b 0 20 ) (va_cwS 3 hz (z_gS wd_219 wd_220 wd_29 wd_221) rfl rfl rfl (by decide +kernel) ⟨Nat.le_of_ble_eq_true rfl, Nat.le_of_ble_eq_true rfl⟩) (zp_preS hK hP [] rfl [] rfl z_true (fun _ _ _ => trivial)) rfl rfl hl.1 rfl (lv_room (Nat.le_of_ble_eq_true rfl)) dSC_layout_15 ⟨Nat.le_of_ble_eq_true rfl, Nat.le_of_ble_eq_true rfl⟩) (fun rb h_rb => ?_)
    refine lv_if_ne (tgt := 23) hx hb dSC_layout_18 rfl (fun h2 => ?_) (fun h2 => ?_)
    · refine lv_aload_n hx hb dSC_layout_23 rfl (lv_at hl 0 rfl) ?_
      refine lv_iload_n hx hb dSC_layout_24 rfl (lv_at hl 1 rfl) ?_
      refine va_put (D := (dC, dI)) (ci := 0) (v := .int a) (ty := .int) (C := RSC) (T := TSC) (N := 6) hx hb hz in_SC tySC tokSC nokSC hown hK hP hD hS 0 rfl rfl 3 (by decide) (hz _ wd_153) (fun _ h9 => h9) rfl (by decide +kernel) rfl rfl (Nat.le_of_ble_eq_true rfl) dSC_layout_25 (fun H locs hP hD hS => ?_)
      have hP : va_P (dC, dI) vwCl [(h0, .inr (0, [.ref g, .ref wd, .ref hh, .int a, .int 0, .int 0])), (g, .inr (1, [.ref al, .int 1, .int 0, .int 0, .int 0, .int 0])), (al, .inr (2, [.ref ed, .int 0, .int mo]))] H := hP
      have hD : va_D A [(h0, .inr (0, [.ref g, .ref wd, .ref hh, .int a, .int 0, .int 0])), (g, .inr (1, [.ref al, .int 1, .int 0, .int 0, .int 0, .int 0])), (al, .inr (2, [.ref ed, .int 0, .int mo]))] := hD
      refine lv_aload_n hx hb dSC_layout_28 rfl (lv_at hl 0 rfl) ?_
      refine lv_iload_n hx hb dSC_layout_29 rfl (lv_at hl 2 rfl) ?_
      refine va_put (D := (dC, dI)) (ci := 0) (v := .int b) (ty := .int) (C := RSC) (T := TSC) (N := 6) hx hb hz in_SC tySC tokSC nokSC hown hK hP hD hS 0 rfl rfl 4 (by decide) (hz _ wd_154) (fun _ h9 => h9) rfl (by decide +kernel) rfl rfl (Nat.le_of_ble_eq_true rfl) dSC_layout_30 (fun H locs hP hD hS => ?_)
      have hP : va_P (dC, dI) vwCl [(h0, .inr (0, [.ref g, .ref wd, .ref hh, .int a, .int b, .int 0])), (g, .inr (1, [.ref al, .int 1, .int 0, .int 0, .int 0, .int 0])), (al, .inr (2, [.ref ed, .int 0, .int mo]))] H := hP
      have hD : va_D A [(h0, .inr (0, [.ref g, .ref wd, .ref hh, .int a, .int b, .int 0])), (g, .inr (1, [.ref al, .int 1, .int 0, .int 0, .int 0, .int 0])), (al, .inr (2, [.ref ed, .int 0, .int mo]))] := hD
      refine lv_aload_n hx hb dSC_layout_33 rfl (lv_at hl 0 rfl) ?_
      refine lv_iload_n hx hb dSC_layout_34 rfl (lv_at hl 3 rfl) ?_
      refine va_put (D := (dC, dI)) (ci := 0) (v := .int f) (ty := .boolean) (C := RSC) (T := TSC) (N := 6) hx hb hz in_SC tySC tokSC nokSC hown hK hP hD hS 0 rfl rfl 5 (by decide) (hz _ wd_155) (fun _ h9 => h9) rfl (by decide +kernel) (by rcases hf with h | h <;> (subst h; rfl)) (by rcases hf with h | h <;> (subst h; rfl)) (Nat.le_of_ble_eq_true rfl) dSC_layout_35 (fun H locs hP hD hS => ?_)
      have hP : va_P (dC, dI) vwCl [(h0, .inr (0, [.ref g, .ref wd, .ref hh, .int a, .int b, .int f])), (g, .inr (1, [.ref al, .int 1, .int 0, .int 0, .int 0, .int 0])), (al, .inr (2, [.ref ed, .int 0, .int mo]))] H := hP
      have hD : va_D A [(h0, .inr (0, [.ref g, .ref wd, .ref hh, .int a, .int b, .int f])), (g, .inr (1, [.ref al, .int 1, .int 0, .int 0, .int 0, .int 0])), (al, .inr (2, [.ref ed, .int 0, .int mo]))] := hD
      refine lv_iconst (v := 1) hx hb dSC_layout_38 (by decide) ?_
      subst hQ
      exact zw_zret (D := (dC, dI)) (cl := vwCl) (A := A) () hx hb hr hlocks (Or.inr rfl) (Or.inl ⟨rfl, z_wT h_ra h1, z_wT h_rb h2⟩) (hP.sub [] rfl) (hK.sub [] rfl) (hD.sub [] (by decide) rfl) hS dSC_layout_39
    · refine lv_iconst (v := 0) hx hb dSC_layout_21 (by decide) ?_
      subst hQ
      exact zw_zret (D := (dC, dI)) (cl := vwCl) (A := A) () hx hb hr hlocks (Or.inl rfl) (Or.inr ⟨rfl, fun h => z_wF h_rb h2 h.2⟩) (hP.sub [] rfl) (hK.sub [] rfl) (hD.sub [] (by decide) rfl) hS dSC_layout_22
