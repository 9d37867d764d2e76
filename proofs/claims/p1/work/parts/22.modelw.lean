set_option maxHeartbeats 4000000 in
set_option maxRecDepth 100000 in
theorem c_MD_group (l : Launch) (dC : Nat → ClassId) (dI : Nat → Nat → Nat) (h0 : Nat) (b0 : Nat) (b1 : Nat) (b2 : Nat) (b3 : Nat) (b4 : Nat) (b5 : Nat) (b6 : Nat) (b7 : Nat) (b8 : Nat) (b9 : Nat) (b10 : Nat) (b11 : Nat) (b12 : Nat) (b13 : Nat) (b14 : Nat) (b15 : Nat) (b16 : Nat) (b17 : Nat) (kb0 : ClassId) (kb1 : ClassId) : zw_Mi (S := Unit) l yMD_group wMD_group ({ frames := 1, cells := 0, slots := 0, locals := 24 }) [.ref h0] (dC, dI) vwCl [(h0, .inr (6, [.int 1, .ref b0, .ref b1, .int 0, .ref b2, .ref b3, .ref b4, .ref b5, .ref b6, .ref b7, .ref b8, .ref b9, .ref b10, .ref b11, .int (-1), .int 0, .int 0, .int 0, .int 0, .int 0, .ref b12, .ref b13, .ref b14, .ref b15, .ref b16, .ref b17])), (b0, .inl (kb0, 8, .inl (fun _ => 0))), (b1, .inl (kb1, 8, .inl (fun _ => 0)))] [(kb0, .int), (kb1, .int)] (fun _ _ => True) (fun r (_ : Unit) => r = 2) (fun (_ : Unit) => []) (fun (_ : Unit) => []) 0 0 := by
  refine zw_headi (cc := cMD_group) (maxL := 1) (ret := (some .int)) (by decide +kernel) rfl (Nat.le_of_ble_eq_true rfl) ?_
  intro p e s m below meth c ls A F hA hP hK hD hS hX hl
  obtain ⟨hx, hb, hml, hr, hlocks, hown, hts⟩ := F
  have hown : s.vm.findClass "SpannedCellsModel" = some m.cls := hown
  have hz : ∀ w9 ∈ zT, w9.before [.ref h0].toArray s = true := fun w9 h => hts w9 (List.mem_cons_of_mem _ h)
  have hl : lv_has ls 1 [(0, .ref h0)] := hl
  refine z_q (fun Q hQ => ?_)
  refine lv_aload_n hx hb dMD_group_0 rfl (lv_at hl 0 rfl) ?_
  refine va_get (D := (dC, dI)) (ci := 6) (v := .int 1) (C := RMD) (T := TMD) (N := 26) hx hb hz in_MD hown hK hP 0 rfl rfl 0 (by decide) (hz _ wd_584) (fun _ h9 => h9) rfl dMD_group_1 ?_
  refine lv_bipush (v := 8) hx hb dMD_group_4 (by decide) ?_
  refine lv_icmp_ne (tgt := 11) hx hb dMD_group_6 rfl (fun _ => ?_) (fun h => absurd h (by decide))
  refine lv_aload_n hx hb dMD_group_11 rfl (lv_at hl 0 rfl) ?_
  refine va_get (D := (dC, dI)) (ci := 6) (v := .ref b0) (C := RMD) (T := TMD) (N := 26) hx hb hz in_MD hown hK hP 0 rfl rfl 1 (by decide) (hz _ wd_585) (fun _ h9 => h9) rfl dMD_group_12 ?_
  refine lv_aload_n hx hb dMD_group_15 rfl (lv_at hl 0 rfl) ?_
  refine va_get (D := (dC, dI)) (ci := 6) (v := .int 1) (C := RMD) (T := TMD) (N := 26) hx hb hz in_MD hown hK hP 0 rfl rfl 0 (by decide) (hz _ wd_584) (fun _ h9 => h9) rfl dMD_group_16 ?_
  refine lv_aload_n hx hb dMD_group_19 rfl (lv_at hl 0 rfl) ?_
  refine lv_aload_n hx hb dMD_group_20 rfl (lv_at hl 0 rfl) ?_
  refine va_get (D := (dC, dI)) (ci := 6) (v := .int 1) (C := RMD) (T := TMD) (N := 26) hx hb hz in_MD hown hK hP 0 rfl rfl 0 (by decide) (hz _ wd_584) (fun _ h9 => h9) rfl dMD_group_21 ?_
  refine lv_iconst (v := 1) hx hb dMD_group_24 (by decide) ?_
  refine lv_isub hx hb dMD_group_25 ?_
  refine lv_topi (fun x1 e2 => ?_)
  have e2 : x1 = 0 := e2.trans (by decide)
  subst e2
  refine vp_callSi (W.runV (As := [.int 0]) (rest := [.int 1, .ref b0]) ⟨hx, hb, hml, hown, hz⟩ (c_MD_endOf l dC dI h0 b0 b1 b2 b3 b4 b5 b6 b7 b8 b9 b10 b11 b12 b13 b14 b15 b16 b17 kb0 kb1 ) (cwV 1 hz (z_gV wd_668 wd_670 wd_13 wd_37 wd_671) rfl rfl rfl (by decide +kernel) ⟨Nat.le_of_ble_eq_true rfl, Nat.le_of_ble_eq_true rfl⟩) (zp_preV (q0 := 0) (q := (RMD, TMD, 26)) hK hP rfl rfl [0, 1, 2] rfl [0, 1] rfl z_true (fun _ _ _ => trivial)) rfl rfl hl.1 rfl (lv_room (Nat.le_of_ble_eq_true rfl)) dMD_group_26 ⟨Nat.le_of_ble_eq_true rfl, Nat.le_of_ble_eq_true rfl⟩) (fun r3 h_r3 => ?_)
  have h_r3 : r3 = 0 := h_r3
  subst h_r3
  refine va_iast hx hb hK hP hD hS 1 0 rfl rfl (by unfold vp_in; decide) dMD_group_29 (fun H locs hP hD hS => ?_)
  have hP : va_P (dC, dI) vwCl [(h0, .inr (6, [.int 1, .ref b0, .ref b1, .int 0, .ref b2, .ref b3, .ref b4, .ref b5, .ref b6, .ref b7, .ref b8, .ref b9, .ref b10, .ref b11, .int (-1), .int 0, .int 0, .int 0, .int 0, .int 0, .ref b12, .ref b13, .ref b14, .ref b15, .ref b16, .ref b17])), (b0, .inl (kb0, 8, .inl (upd (fun _ => 0) (1 : Int32).toNatClampNeg 0))), (b1, .inl (kb1, 8, .inl (fun _ => 0)))] H := hP
  have hD : va_D A [(h0, .inr (6, [.int 1, .ref b0, .ref b1, .int 0, .ref b2, .ref b3, .ref b4, .ref b5, .ref b6, .ref b7, .ref b8, .ref b9, .ref b10, .ref b11, .int (-1), .int 0, .int 0, .int 0, .int 0, .int 0, .ref b12, .ref b13, .ref b14, .ref b15, .ref b16, .ref b17])), (b0, .inl (kb0, 8, .inl (upd (fun _ => 0) (1 : Int32).toNatClampNeg 0))), (b1, .inl (kb1, 8, .inl (fun _ => 0)))] := hD
  refine lv_aload_n hx hb dMD_group_30 rfl (lv_at hl 0 rfl) ?_
  refine va_get (D := (dC, dI)) (ci := 6) (v := .ref b1) (C := RMD) (T := TMD) (N := 26) hx hb hz in_MD hown hK hP 0 rfl rfl 2 (by decide) (hz _ wd_586) (fun _ h9 => h9) rfl dMD_group_31 ?_
  refine lv_aload_n hx hb dMD_group_34 rfl (lv_at hl 0 rfl) ?_
  refine va_get (D := (dC, dI)) (ci := 6) (v := .int 1) (C := RMD) (T := TMD) (N := 26) hx hb hz in_MD hown hK hP 0 rfl rfl 0 (by decide) (hz _ wd_584) (fun _ h9 => h9) rfl dMD_group_35 ?_
  refine lv_iconst (v := 0) hx hb dMD_group_38 (by decide) ?_
  refine va_iast hx hb hK hP hD hS 2 1 rfl rfl (by unfold vp_in; decide) dMD_group_39 (fun H locs hP hD hS => ?_)
  have hP : va_P (dC, dI) vwCl [(h0, .inr (6, [.int 1, .ref b0, .ref b1, .int 0, .ref b2, .ref b3, .ref b4, .ref b5, .ref b6, .ref b7, .ref b8, .ref b9, .ref b10, .ref b11, .int (-1), .int 0, .int 0, .int 0, .int 0, .int 0, .ref b12, .ref b13, .ref b14, .ref b15, .ref b16, .ref b17])), (b0, .inl (kb0, 8, .inl (upd (fun _ => 0) (1 : Int32).toNatClampNeg 0))), (b1, .inl (kb1, 8, .inl (upd (fun _ => 0) (1 : Int32).toNatClampNeg 0)))] H := hP
  have hD : va_D A [(h0, .inr (6, [.int 1, .ref b0, .ref b1, .int 0, .ref b2, .ref b3, .ref b4, .ref b5, .ref b6, .ref b7, .ref b8, .ref b9, .ref b10, .ref b11, .int (-1), .int 0, .int 0, .int 0, .int 0, .int 0, .ref b12, .ref b13, .ref b14, .ref b15, .ref b16, .ref b17])), (b0, .inl (kb0, 8, .inl (upd (fun _ => 0) (1 : Int32).toNatClampNeg 0))), (b1, .inl (kb1, 8, .inl (upd (fun _ => 0) (1 : Int32).toNatClampNeg 0)))] := hD
  refine lv_aload_n hx hb dMD_group_40 rfl (lv_at hl 0 rfl) ?_
  refine lv_aload_n hx hb dMD_group_41 rfl (lv_at hl 0 rfl) ?_
  refine va_get (D := (dC, dI)) (ci := 6) (v := .int 1) (C := RMD) (T := TMD) (N := 26) hx hb hz in_MD hown hK hP 0 rfl rfl 0 (by decide) (hz _ wd_584) (fun _ h9 => h9) rfl dMD_group_42 ?_
  refine lv_iconst (v := 1) hx hb dMD_group_45 (by decide) ?_
  refine lv_iadd hx hb dMD_group_46 ?_
  refine lv_topi (fun x4 e5 => ?_)
  have e5 : x4 = 2 := e5.trans (by decide)
  subst e5
  refine va_put (D := (dC, dI)) (ci := 6) (v := .int 2) (ty := .int) (C := RMD) (T := TMD) (N := 26) hx hb hz in_MD tyMD tokMD nokMD hown hK hP hD hS 0 rfl rfl 0 (by decide) (hz _ wd_584) (fun _ h9 => h9) rfl (by decide +kernel) rfl rfl (Nat.le_of_ble_eq_true rfl) dMD_group_47 (fun H locs hP hD hS => ?_)
  have hP : va_P (dC, dI) vwCl [(h0, .inr (6, [.int 2, .ref b0, .ref b1, .int 0, .ref b2, .ref b3, .ref b4, .ref b5, .ref b6, .ref b7, .ref b8, .ref b9, .ref b10, .ref b11, .int (-1), .int 0, .int 0, .int 0, .int 0, .int 0, .ref b12, .ref b13, .ref b14, .ref b15, .ref b16, .ref b17])), (b0, .inl (kb0, 8, .inl (upd (fun _ => 0) (1 : Int32).toNatClampNeg 0))), (b1, .inl (kb1, 8, .inl (upd (fun _ => 0) (1 : Int32).toNatClampNeg 0)))] H := hP
  have hD : va_D A [(h0, .inr (6, [.int 2, .ref b0, .ref b1, .int 0, .ref b2, .ref b3, .ref b4, .ref b5, .ref b6, .ref b7, .ref b8, .ref b9, .ref b10, .ref b11, .int (-1), .int 0, .int 0, .int 0, .int 0, .int 0, .ref b12, .ref b13, .ref b14, .ref b15, .ref b16, .ref b17])), (b0, .inl (kb0, 8, .inl (upd (fun _ => 0) (1 : Int32).toNatClampNeg 0))), (b1, .inl (kb1, 8, .inl (upd (fun _ => 0) (1 : Int32).toNatClampNeg 0)))] := hD
  refine lv_aload_n hx hb dMD_group_50 rfl (lv_at hl 0 rfl) ?_
  refine va_get (D := (dC, dI)) (ci := 6) (v := .int 2) (C := RMD) (T := TMD) (N := 26) hx hb hz in_MD hown hK hP 0 rfl rfl 0 (by decide) (hz _ wd_584) (fun _ h9 => h9) rfl dMD_group_51 ?_
  subst hQ
  exact zw_iret (D := (dC, dI)) (cl := vwCl) (A := A) () hx hb hr hlocks (rfl) (hP.sub [] rfl) (hK.sub [] rfl) (hD.sub [] (by decide) rfl) hS dMD_group_54

set_option maxHeartbeats 4000000 in
set_option maxRecDepth 100000 in
theorem c_MD_row (l : Launch) (dC : Nat → ClassId) (dI : Nat → Nat → Nat) (h0 : Nat) (b0 : Nat) (b1 : Nat) (b2 : Nat) (b3 : Nat) (b4 : Nat) (b5 : Nat) (b6 : Nat) (b7 : Nat) (b8 : Nat) (b9 : Nat) (b10 : Nat) (b11 : Nat) (b12 : Nat) (b13 : Nat) (b14 : Nat) (b15 : Nat) (b16 : Nat) (b17 : Nat) (kb0 : ClassId) (kb1 : ClassId) : zw_Mi (S := Unit) l yMD_row wMD_row ({ frames := 0, cells := 0, slots := 0, locals := 0 }) [.ref h0] (dC, dI) vwCl [(h0, .inr (6, [.int 1, .ref b0, .ref b1, .int 0, .ref b2, .ref b3, .ref b4, .ref b5, .ref b6, .ref b7, .ref b8, .ref b9, .ref b10, .ref b11, .int (-1), .int 0, .int 0, .int 0, .int 0, .int 0, .ref b12, .ref b13, .ref b14, .ref b15, .ref b16, .ref b17])), (b0, .inl (kb0, 8, .inl (fun _ => 0))), (b1, .inl (kb1, 8, .inl (fun _ => 0)))] [(kb0, .int), (kb1, .int)] (fun _ _ => True) (fun r (_ : Unit) => r = 0) (fun (_ : Unit) => []) (fun (_ : Unit) => []) 0 0 := by
  refine zw_headi (cc := cMD_row) (maxL := 3) (ret := (some .int)) (by decide +kernel) rfl (Nat.le_of_ble_eq_true rfl) ?_
  intro p e s m below meth c ls A F hA hP hK hD hS hX hl
  obtain ⟨hx, hb, hml, hr, hlocks, hown, hts⟩ := F
  have hown : s.vm.findClass "SpannedCellsModel" = some m.cls := hown
  have hz : ∀ w9 ∈ zT, w9.before [.ref h0].toArray s = true := fun w9 h => hts w9 (List.mem_cons_of_mem _ h)
  have hl : lv_has ls 3 [(0, .ref h0)] := hl
  refine z_q (fun Q hQ => ?_)
  refine lv_aload_n hx hb dMD_row_0 rfl (lv_at hl 0 rfl) ?_
  refine va_get (D := (dC, dI)) (ci := 6) (v := .int 1) (C := RMD) (T := TMD) (N := 26) hx hb hz in_MD hown hK hP 0 rfl rfl 0 (by decide) (hz _ wd_584) (fun _ h9 => h9) rfl dMD_row_1 ?_
  refine lv_iconst (v := 1) hx hb dMD_row_4 (by decide) ?_
  refine lv_isub hx hb dMD_row_5 ?_
  refine lv_topi (fun x1 e2 => ?_)
  have e2 : x1 = 0 := e2.trans (by decide)
  subst e2
  refine lv_istore_n hx hb dMD_row_6 rfl hl (Nat.le_of_ble_eq_true rfl) rfl (fun ls hl => ?_)
  have hl : lv_has ls 3 [(1, .int 0), (0, .ref h0)] := hl
  refine lv_aload_n hx hb dMD_row_7 rfl (lv_at hl 1 rfl) ?_
  refine va_get (D := (dC, dI)) (ci := 6) (v := .ref b0) (C := RMD) (T := TMD) (N := 26) hx hb hz in_MD hown hK hP 0 rfl rfl 1 (by decide) (hz _ wd_585) (fun _ h9 => h9) rfl dMD_row_8 ?_
  refine lv_iload_n hx hb dMD_row_11 rfl (lv_at hl 0 rfl) ?_
  refine va_iald hx hb hK hP 1 0 rfl rfl (by unfold vp_in; decide) dMD_row_12 ?_
  refine lv_topi (fun x3 e4 => ?_)
  have e4 : x3 = 0 := e4.trans (rfl)
  subst e4
  refine lv_aload_n hx hb dMD_row_13 rfl (lv_at hl 1 rfl) ?_
  refine va_get (D := (dC, dI)) (ci := 6) (v := .ref b1) (C := RMD) (T := TMD) (N := 26) hx hb hz in_MD hown hK hP 0 rfl rfl 2 (by decide) (hz _ wd_586) (fun _ h9 => h9) rfl dMD_row_14 ?_
  refine lv_iload_n hx hb dMD_row_17 rfl (lv_at hl 0 rfl) ?_
  refine va_iald hx hb hK hP 2 1 rfl rfl (by unfold vp_in; decide) dMD_row_18 ?_
  refine lv_topi (fun x5 e6 => ?_)
  have e6 : x5 = 0 := e6.trans (rfl)
  subst e6
  refine lv_iadd hx hb dMD_row_19 ?_
  refine lv_topi (fun x7 e8 => ?_)
  have e8 : x7 = 0 := e8.trans (by decide)
  subst e8
  refine lv_istore_n hx hb dMD_row_20 rfl hl (Nat.le_of_ble_eq_true rfl) rfl (fun ls hl => ?_)
  have hl : lv_has ls 3 [(2, .int 0), (1, .int 0), (0, .ref h0)] := hl
  refine lv_iload_n hx hb dMD_row_21 rfl (lv_at hl 0 rfl) ?_
  refine lv_bipush (v := 11) hx hb dMD_row_22 (by decide) ?_
  refine lv_icmp_le (tgt := 29) hx hb dMD_row_24 rfl (fun _ => ?_) (fun h => absurd (by decide) h)
  refine lv_aload_n hx hb dMD_row_29 rfl (lv_at hl 2 rfl) ?_
  refine va_get (D := (dC, dI)) (ci := 6) (v := .ref b1) (C := RMD) (T := TMD) (N := 26) hx hb hz in_MD hown hK hP 0 rfl rfl 2 (by decide) (hz _ wd_586) (fun _ h9 => h9) rfl dMD_row_30 ?_
  refine lv_iload_n hx hb dMD_row_33 rfl (lv_at hl 1 rfl) ?_
  refine lv_aload_n hx hb dMD_row_34 rfl (lv_at hl 2 rfl) ?_
  refine va_get (D := (dC, dI)) (ci := 6) (v := .ref b1) (C := RMD) (T := TMD) (N := 26) hx hb hz in_MD hown hK hP 0 rfl rfl 2 (by decide) (hz _ wd_586) (fun _ h9 => h9) rfl dMD_row_35 ?_
  refine lv_iload_n hx hb dMD_row_38 rfl (lv_at hl 1 rfl) ?_
  refine va_iald hx hb hK hP 2 1 rfl rfl (by unfold vp_in; decide) dMD_row_39 ?_
  refine lv_topi (fun x9 e10 => ?_)
  have e10 : x9 = 0 := e10.trans (rfl)
  subst e10
  refine lv_iconst (v := 1) hx hb dMD_row_40 (by decide) ?_
  refine lv_iadd hx hb dMD_row_41 ?_
  refine lv_topi (fun x11 e12 => ?_)
  have e12 : x11 = 1 := e12.trans (by decide)
  subst e12
  refine va_iast hx hb hK hP hD hS 2 1 rfl rfl (by unfold vp_in; decide) dMD_row_42 (fun H locs hP hD hS => ?_)
  have hP : va_P (dC, dI) vwCl [(h0, .inr (6, [.int 1, .ref b0, .ref b1, .int 0, .ref b2, .ref b3, .ref b4, .ref b5, .ref b6, .ref b7, .ref b8, .ref b9, .ref b10, .ref b11, .int (-1), .int 0, .int 0, .int 0, .int 0, .int 0, .ref b12, .ref b13, .ref b14, .ref b15, .ref b16, .ref b17])), (b0, .inl (kb0, 8, .inl (fun _ => 0))), (b1, .inl (kb1, 8, .inl (upd (fun _ => 0) (0 : Int32).toNatClampNeg 1)))] H := hP
  have hD : va_D A [(h0, .inr (6, [.int 1, .ref b0, .ref b1, .int 0, .ref b2, .ref b3, .ref b4, .ref b5, .ref b6, .ref b7, .ref b8, .ref b9, .ref b10, .ref b11, .int (-1), .int 0, .int 0, .int 0, .int 0, .int 0, .ref b12, .ref b13, .ref b14, .ref b15, .ref b16, .ref b17])), (b0, .inl (kb0, 8, .inl (fun _ => 0))), (b1, .inl (kb1, 8, .inl (upd (fun _ => 0) (0 : Int32).toNatClampNeg 1)))] := hD
  refine lv_aload_n hx hb dMD_row_43 rfl (lv_at hl 2 rfl) ?_
  refine lv_iload_n hx hb dMD_row_44 rfl (lv_at hl 1 rfl) ?_
  refine va_put (D := (dC, dI)) (ci := 6) (v := .int 0) (ty := .int) (C := RMD) (T := TMD) (N := 26) hx hb hz in_MD tyMD tokMD nokMD hown hK hP hD hS 0 rfl rfl 14 (by decide) (hz _ wd_598) (fun _ h9 => h9) rfl (by decide +kernel) rfl rfl (Nat.le_of_ble_eq_true rfl) dMD_row_45 (fun H locs hP hD hS => ?_)
  have hP : va_P (dC, dI) vwCl [(h0, .inr (6, [.int 1, .ref b0, .ref b1, .int 0, .ref b2, .ref b3, .ref b4, .ref b5, .ref b6, .ref b7, .ref b8, .ref b9, .ref b10, .ref b11, .int 0, .int 0, .int 0, .int 0, .int 0, .int 0, .ref b12, .ref b13, .ref b14, .ref b15, .ref b16, .ref b17])), (b0, .inl (kb0, 8, .inl (fun _ => 0))), (b1, .inl (kb1, 8, .inl (upd (fun _ => 0) (0 : Int32).toNatClampNeg 1)))] H := hP
  have hD : va_D A [(h0, .inr (6, [.int 1, .ref b0, .ref b1, .int 0, .ref b2, .ref b3, .ref b4, .ref b5, .ref b6, .ref b7, .ref b8, .ref b9, .ref b10, .ref b11, .int 0, .int 0, .int 0, .int 0, .int 0, .int 0, .ref b12, .ref b13, .ref b14, .ref b15, .ref b16, .ref b17])), (b0, .inl (kb0, 8, .inl (fun _ => 0))), (b1, .inl (kb1, 8, .inl (upd (fun _ => 0) (0 : Int32).toNatClampNeg 1)))] := hD
  refine lv_aload_n hx hb dMD_row_48 rfl (lv_at hl 2 rfl) ?_
  refine lv_iload_n hx hb dMD_row_49 rfl (lv_at hl 0 rfl) ?_
  refine va_put (D := (dC, dI)) (ci := 6) (v := .int 0) (ty := .int) (C := RMD) (T := TMD) (N := 26) hx hb hz in_MD tyMD tokMD nokMD hown hK hP hD hS 0 rfl rfl 15 (by decide) (hz _ wd_599) (fun _ h9 => h9) rfl (by decide +kernel) rfl rfl (Nat.le_of_ble_eq_true rfl) dMD_row_50 (fun H locs hP hD hS => ?_)
  have hP : va_P (dC, dI) vwCl [(h0, .inr (6, [.int 1, .ref b0, .ref b1, .int 0, .ref b2, .ref b3, .ref b4, .ref b5, .ref b6, .ref b7, .ref b8, .ref b9, .ref b10, .ref b11, .int 0, .int 0, .int 0, .int 0, .int 0, .int 0, .ref b12, .ref b13, .ref b14, .ref b15, .ref b16, .ref b17])), (b0, .inl (kb0, 8, .inl (fun _ => 0))), (b1, .inl (kb1, 8, .inl (upd (fun _ => 0) (0 : Int32).toNatClampNeg 1)))] H := hP
  have hD : va_D A [(h0, .inr (6, [.int 1, .ref b0, .ref b1, .int 0, .ref b2, .ref b3, .ref b4, .ref b5, .ref b6, .ref b7, .ref b8, .ref b9, .ref b10, .ref b11, .int 0, .int 0, .int 0, .int 0, .int 0, .int 0, .ref b12, .ref b13, .ref b14, .ref b15, .ref b16, .ref b17])), (b0, .inl (kb0, 8, .inl (fun _ => 0))), (b1, .inl (kb1, 8, .inl (upd (fun _ => 0) (0 : Int32).toNatClampNeg 1)))] := hD
  refine lv_aload_n hx hb dMD_row_53 rfl (lv_at hl 2 rfl) ?_
  refine lv_iconst (v := 0) hx hb dMD_row_54 (by decide) ?_
  refine va_put (D := (dC, dI)) (ci := 6) (v := .int 0) (ty := .int) (C := RMD) (T := TMD) (N := 26) hx hb hz in_MD tyMD tokMD nokMD hown hK hP hD hS 0 rfl rfl 16 (by decide) (hz _ wd_600) (fun _ h9 => h9) rfl (by decide +kernel) rfl rfl (Nat.le_of_ble_eq_true rfl) dMD_row_55 (fun H locs hP hD hS => ?_)
  have hP : va_P (dC, dI) vwCl [(h0, .inr (6, [.int 1, .ref b0, .ref b1, .int 0, .ref b2, .ref b3, .ref b4, .ref b5, .ref b6, .ref b7, .ref b8, .ref b9, .ref b10, .ref b11, .int 0, .int 0, .int 0, .int 0, .int 0, .int 0, .ref b12, .ref b13, .ref b14, .ref b15, .ref b16, .ref b17])), (b0, .inl (kb0, 8, .inl (fun _ => 0))), (b1, .inl (kb1, 8, .inl (upd (fun _ => 0) (0 : Int32).toNatClampNeg 1)))] H := hP
  have hD : va_D A [(h0, .inr (6, [.int 1, .ref b0, .ref b1, .int 0, .ref b2, .ref b3, .ref b4, .ref b5, .ref b6, .ref b7, .ref b8, .ref b9, .ref b10, .ref b11, .int 0, .int 0, .int 0, .int 0, .int 0, .int 0, .ref b12, .ref b13, .ref b14, .ref b15, .ref b16, .ref b17])), (b0, .inl (kb0, 8, .inl (fun _ => 0))), (b1, .inl (kb1, 8, .inl (upd (fun _ => 0) (0 : Int32).toNatClampNeg 1)))] := hD
  refine lv_iload_n hx hb dMD_row_58 rfl (lv_at hl 0 rfl) ?_
  subst hQ
  exact zw_iret (D := (dC, dI)) (cl := vwCl) (A := A) () hx hb hr hlocks (rfl) (hP.sub [] rfl) (hK.sub [] rfl) (hD.sub [] (by decide) rfl) hS dMD_row_59

set_option maxHeartbeats 4000000 in
set_option maxRecDepth 100000 in
theorem c_MD_clear (l : Launch) (dC : Nat → ClassId) (dI : Nat → Nat → Nat) (h0 : Nat) (b0 : Nat) (b1 : Nat) (b2 : Nat) (b3 : Nat) (b4 : Nat) (b5 : Nat) (b6 : Nat) (b7 : Nat) (b8 : Nat) (b9 : Nat) (b10 : Nat) (b11 : Nat) (b12 : Nat) (b13 : Nat) (b14 : Nat) (b15 : Nat) (b16 : Nat) (b17 : Nat) (kb0 : ClassId) (kb1 : ClassId) : zw_Mi (S := Unit) l yMD_clear wMD_clear ({ frames := 0, cells := 0, slots := 0, locals := 0 }) [.ref h0] (dC, dI) vwCl [(h0, .inr (6, [.int 1, .ref b0, .ref b1, .int 0, .ref b2, .ref b3, .ref b4, .ref b5, .ref b6, .ref b7, .ref b8, .ref b9, .ref b10, .ref b11, .int (-1), .int 0, .int 0, .int 0, .int 0, .int 0, .ref b12, .ref b13, .ref b14, .ref b15, .ref b16, .ref b17])), (b0, .inl (kb0, 8, .inl (fun _ => 0))), (b1, .inl (kb1, 8, .inl (fun _ => 0)))] [(kb0, .int), (kb1, .int)] (fun _ _ => True) (fun r (_ : Unit) => r = 0) (fun (_ : Unit) => []) (fun (_ : Unit) => []) 0 0 := by
  refine zw_headi (cc := cMD_clear) (maxL := 2) (ret := (some .int)) (by decide +kernel) rfl (Nat.le_of_ble_eq_true rfl) ?_
  intro p e s m below meth c ls A F hA hP hK hD hS hX hl
  obtain ⟨hx, hb, hml, hr, hlocks, hown, hts⟩ := F
  have hown : s.vm.findClass "SpannedCellsModel" = some m.cls := hown
  have hz : ∀ w9 ∈ zT, w9.before [.ref h0].toArray s = true := fun w9 h => hts w9 (List.mem_cons_of_mem _ h)
  have hl : lv_has ls 2 [(0, .ref h0)] := hl
  refine z_q (fun Q hQ => ?_)
  refine lv_aload_n hx hb dMD_clear_0 rfl (lv_at hl 0 rfl) ?_
  refine va_get (D := (dC, dI)) (ci := 6) (v := .int 0) (C := RMD) (T := TMD) (N := 26) hx hb hz in_MD hown hK hP 0 rfl rfl 3 (by decide) (hz _ wd_587) (fun _ h9 => h9) rfl dMD_clear_1 ?_
  refine lv_istore_n hx hb dMD_clear_4 rfl hl (Nat.le_of_ble_eq_true rfl) rfl (fun ls hl => ?_)
  have hl : lv_has ls 2 [(1, .int 0), (0, .ref h0)] := hl
  refine lv_aload_n hx hb dMD_clear_5 rfl (lv_at hl 1 rfl) ?_
  refine lv_iconst (v := 0) hx hb dMD_clear_6 (by decide) ?_
  refine va_put (D := (dC, dI)) (ci := 6) (v := .int 0) (ty := .int) (C := RMD) (T := TMD) (N := 26) hx hb hz in_MD tyMD tokMD nokMD hown hK hP hD hS 0 rfl rfl 3 (by decide) (hz _ wd_587) (fun _ h9 => h9) rfl (by decide +kernel) rfl rfl (Nat.le_of_ble_eq_true rfl) dMD_clear_7 (fun H locs hP hD hS => ?_)
  have hP : va_P (dC, dI) vwCl [(h0, .inr (6, [.int 1, .ref b0, .ref b1, .int 0, .ref b2, .ref b3, .ref b4, .ref b5, .ref b6, .ref b7, .ref b8, .ref b9, .ref b10, .ref b11, .int (-1), .int 0, .int 0, .int 0, .int 0, .int 0, .ref b12, .ref b13, .ref b14, .ref b15, .ref b16, .ref b17])), (b0, .inl (kb0, 8, .inl (fun _ => 0))), (b1, .inl (kb1, 8, .inl (fun _ => 0)))] H := hP
  have hD : va_D A [(h0, .inr (6, [.int 1, .ref b0, .ref b1, .int 0, .ref b2, .ref b3, .ref b4, .ref b5, .ref b6, .ref b7, .ref b8, .ref b9, .ref b10, .ref b11, .int (-1), .int 0, .int 0, .int 0, .int 0, .int 0, .ref b12, .ref b13, .ref b14, .ref b15, .ref b16, .ref b17])), (b0, .inl (kb0, 8, .inl (fun _ => 0))), (b1, .inl (kb1, 8, .inl (fun _ => 0)))] := hD
  refine lv_aload_n hx hb dMD_clear_10 rfl (lv_at hl 1 rfl) ?_
  refine lv_iconst (v := 1) hx hb dMD_clear_11 (by decide) ?_
  refine va_put (D := (dC, dI)) (ci := 6) (v := .int 1) (ty := .int) (C := RMD) (T := TMD) (N := 26) hx hb hz in_MD tyMD tokMD nokMD hown hK hP hD hS 0 rfl rfl 0 (by decide) (hz _ wd_584) (fun _ h9 => h9) rfl (by decide +kernel) rfl rfl (Nat.le_of_ble_eq_true rfl) dMD_clear_12 (fun H locs hP hD hS => ?_)
  have hP : va_P (dC, dI) vwCl [(h0, .inr (6, [.int 1, .ref b0, .ref b1, .int 0, .ref b2, .ref b3, .ref b4, .ref b5, .ref b6, .ref b7, .ref b8, .ref b9, .ref b10, .ref b11, .int (-1), .int 0, .int 0, .int 0, .int 0, .int 0, .ref b12, .ref b13, .ref b14, .ref b15, .ref b16, .ref b17])), (b0, .inl (kb0, 8, .inl (fun _ => 0))), (b1, .inl (kb1, 8, .inl (fun _ => 0)))] H := hP
  have hD : va_D A [(h0, .inr (6, [.int 1, .ref b0, .ref b1, .int 0, .ref b2, .ref b3, .ref b4, .ref b5, .ref b6, .ref b7, .ref b8, .ref b9, .ref b10, .ref b11, .int (-1), .int 0, .int 0, .int 0, .int 0, .int 0, .ref b12, .ref b13, .ref b14, .ref b15, .ref b16, .ref b17])), (b0, .inl (kb0, 8, .inl (fun _ => 0))), (b1, .inl (kb1, 8, .inl (fun _ => 0)))] := hD
  refine lv_aload_n hx hb dMD_clear_15 rfl (lv_at hl 1 rfl) ?_
  refine va_get (D := (dC, dI)) (ci := 6) (v := .ref b0) (C := RMD) (T := TMD) (N := 26) hx hb hz in_MD hown hK hP 0 rfl rfl 1 (by decide) (hz _ wd_585) (fun _ h9 => h9) rfl dMD_clear_16 ?_
  refine lv_iconst (v := 0) hx hb dMD_clear_19 (by decide) ?_
  refine lv_iconst (v := 0) hx hb dMD_clear_20 (by decide) ?_
  refine va_iast hx hb hK hP hD hS 1 0 rfl rfl (by unfold vp_in; decide) dMD_clear_21 (fun H locs hP hD hS => ?_)
  have hP : va_P (dC, dI) vwCl [(h0, .inr (6, [.int 1, .ref b0, .ref b1, .int 0, .ref b2, .ref b3, .ref b4, .ref b5, .ref b6, .ref b7, .ref b8, .ref b9, .ref b10, .ref b11, .int (-1), .int 0, .int 0, .int 0, .int 0, .int 0, .ref b12, .ref b13, .ref b14, .ref b15, .ref b16, .ref b17])), (b0, .inl (kb0, 8, .inl (upd (fun _ => 0) (0 : Int32).toNatClampNeg 0))), (b1, .inl (kb1, 8, .inl (fun _ => 0)))] H := hP
  have hD : va_D A [(h0, .inr (6, [.int 1, .ref b0, .ref b1, .int 0, .ref b2, .ref b3, .ref b4, .ref b5, .ref b6, .ref b7, .ref b8, .ref b9, .ref b10, .ref b11, .int (-1), .int 0, .int 0, .int 0, .int 0, .int 0, .ref b12, .ref b13, .ref b14, .ref b15, .ref b16, .ref b17])), (b0, .inl (kb0, 8, .inl (upd (fun _ => 0) (0 : Int32).toNatClampNeg 0))), (b1, .inl (kb1, 8, .inl (fun _ => 0)))] := hD
  refine lv_aload_n hx hb dMD_clear_22 rfl (lv_at hl 1 rfl) ?_
  refine va_get (D := (dC, dI)) (ci := 6) (v := .ref b1) (C := RMD) (T := TMD) (N := 26) hx hb hz in_MD hown hK hP 0 rfl rfl 2 (by decide) (hz _ wd_586) (fun _ h9 => h9) rfl dMD_clear_23 ?_
  refine lv_iconst (v := 0) hx hb dMD_clear_26 (by decide) ?_
  refine lv_iconst (v := 0) hx hb dMD_clear_27 (by decide) ?_
  refine va_iast hx hb hK hP hD hS 2 1 rfl rfl (by unfold vp_in; decide) dMD_clear_28 (fun H locs hP hD hS => ?_)
  have hP : va_P (dC, dI) vwCl [(h0, .inr (6, [.int 1, .ref b0, .ref b1, .int 0, .ref b2, .ref b3, .ref b4, .ref b5, .ref b6, .ref b7, .ref b8, .ref b9, .ref b10, .ref b11, .int (-1), .int 0, .int 0, .int 0, .int 0, .int 0, .ref b12, .ref b13, .ref b14, .ref b15, .ref b16, .ref b17])), (b0, .inl (kb0, 8, .inl (upd (fun _ => 0) (0 : Int32).toNatClampNeg 0))), (b1, .inl (kb1, 8, .inl (upd (fun _ => 0) (0 : Int32).toNatClampNeg 0)))] H := hP
  have hD : va_D A [(h0, .inr (6, [.int 1, .ref b0, .ref b1, .int 0, .ref b2, .ref b3, .ref b4, .ref b5, .ref b6, .ref b7, .ref b8, .ref b9, .ref b10, .ref b11, .int (-1), .int 0, .int 0, .int 0, .int 0, .int 0, .ref b12, .ref b13, .ref b14, .ref b15, .ref b16, .ref b17])), (b0, .inl (kb0, 8, .inl (upd (fun _ => 0) (0 : Int32).toNatClampNeg 0))), (b1, .inl (kb1, 8, .inl (upd (fun _ => 0) (0 : Int32).toNatClampNeg 0)))] := hD
  refine lv_aload_n hx hb dMD_clear_29 rfl (lv_at hl 1 rfl) ?_
  refine lv_iconst (v := (-1)) hx hb dMD_clear_30 (by decide) ?_
  refine va_put (D := (dC, dI)) (ci := 6) (v := .int (-1)) (ty := .int) (C := RMD) (T := TMD) (N := 26) hx hb hz in_MD tyMD tokMD nokMD hown hK hP hD hS 0 rfl rfl 14 (by decide) (hz _ wd_598) (fun _ h9 => h9) rfl (by decide +kernel) rfl rfl (Nat.le_of_ble_eq_true rfl) dMD_clear_31 (fun H locs hP hD hS => ?_)
  have hP : va_P (dC, dI) vwCl [(h0, .inr (6, [.int 1, .ref b0, .ref b1, .int 0, .ref b2, .ref b3, .ref b4, .ref b5, .ref b6, .ref b7, .ref b8, .ref b9, .ref b10, .ref b11, .int (-1), .int 0, .int 0, .int 0, .int 0, .int 0, .ref b12, .ref b13, .ref b14, .ref b15, .ref b16, .ref b17])), (b0, .inl (kb0, 8, .inl (upd (fun _ => 0) (0 : Int32).toNatClampNeg 0))), (b1, .inl (kb1, 8, .inl (upd (fun _ => 0) (0 : Int32).toNatClampNeg 0)))] H := hP
  have hD : va_D A [(h0, .inr (6, [.int 1, .ref b0, .ref b1, .int 0, .ref b2, .ref b3, .ref b4, .ref b5, .ref b6, .ref b7, .ref b8, .ref b9, .ref b10, .ref b11, .int (-1), .int 0, .int 0, .int 0, .int 0, .int 0, .ref b12, .ref b13, .ref b14, .ref b15, .ref b16, .ref b17])), (b0, .inl (kb0, 8, .inl (upd (fun _ => 0) (0 : Int32).toNatClampNeg 0))), (b1, .inl (kb1, 8, .inl (upd (fun _ => 0) (0 : Int32).toNatClampNeg 0)))] := hD
  refine lv_iload_n hx hb dMD_clear_34 rfl (lv_at hl 0 rfl) ?_
  subst hQ
  exact zw_iret (D := (dC, dI)) (cl := vwCl) (A := A) () hx hb hr hlocks (rfl) (hP.sub [] rfl) (hK.sub [] rfl) (hD.sub [] (by decide) rfl) hS dMD_clear_35

set_option maxHeartbeats 4000000 in
set_option maxRecDepth 100000 in
theorem c_MD_layout (l : Launch) (dC : Nat → ClassId) (dI : Nat → Nat → Nat) (h0 : Nat) (b0 : Nat) (b1 : Nat) (b2 : Nat) (b3 : Nat) (b4 : Nat) (b5 : Nat) (b6 : Nat) (b7 : Nat) (b8 : Nat) (b9 : Nat) (b10 : Nat) (b11 : Nat) (b12 : Nat) (b13 : Nat) (b14 : Nat) (b15 : Nat) (b16 : Nat) (b17 : Nat) (a : Int32) (b : Int32) (f : Int32) (hf : f = 0 ∨ f = 1) : zw_Mi (S := Unit) l yMD_layout wMD_layout ({ frames := 0, cells := 0, slots := 0, locals := 0 }) [.ref h0, .int a, .int b, .int f] (dC, dI) vwCl [(h0, .inr (6, [.int 1, .ref b0, .ref b1, .int 0, .ref b2, .ref b3, .ref b4, .ref b5, .ref b6, .ref b7, .ref b8, .ref b9, .ref b10, .ref b11, .int (-1), .int 0, .int 0, .int 0, .int 0, .int 0, .ref b12, .ref b13, .ref b14, .ref b15, .ref b16, .ref b17]))] [] (fun _ _ => True) (fun r (_ : Unit) => (r = 1 ∧ ((0 ≤ a ∧ a ≤ 10000) ∧ (0 ≤ b ∧ b ≤ 20))) ∨ (r = 0 ∧ ¬ ((0 ≤ a ∧ a ≤ 10000) ∧ (0 ≤ b ∧ b ≤ 20)))) (fun (_ : Unit) => []) (fun (_ : Unit) => []) 0 0 := by
  refine zw_headi (cc := cMD_layout) (maxL := 4) (ret := (some .boolean)) (by decide +kernel) rfl (Nat.le_of_ble_eq_true rfl) ?_
  intro p e s m below meth c ls A F hA hP hK hD hS hX hl
  obtain ⟨hx, hb, hml, hr, hlocks, hown, hts⟩ := F
  have hown : s.vm.findClass "SpannedCellsModel" = some m.cls := hown
  have hz : ∀ w9 ∈ zT, w9.before [.ref h0, .int a, .int b, .int f].toArray s = true := fun w9 h => hts w9 (List.mem_cons_of_mem _ h)
  have hl : lv_has ls 4 [(0, .ref h0), (1, .int a), (2, .int b), (3, .int f)] := hl
  refine z_q (fun Q hQ => ?_)
  refine lv_iload_n hx hb dMD_layout_0 rfl (lv_at hl 1 rfl) ?_
  refine lv_if_lt (tgt := 21) hx hb dMD_layout_1 rfl (fun h1 => ?_) (fun h1 => ?_)
  · refine lv_iconst (v := 0) hx hb dMD_layout_21 (by decide) ?_
    subst hQ
    exact zw_zret (D := (dC, dI)) (cl := vwCl) (A := A) () hx hb hr hlocks (Or.inl rfl) (Or.inr ⟨rfl, fun h => absurd h1 (Int32.not_lt.mpr h.1.1)⟩) (hP.sub [] rfl) (hK.sub [] rfl) (hD.sub [] (by decide) rfl) hS dMD_layout_22
  · refine lv_iload_n hx hb dMD_layout_4 rfl (lv_at hl 1 rfl) ?_
    refine lv_sipush (v := 10000) hx hb dMD_layout_5 (by decide) ?_
    refine lv_icmp_gt (tgt := 21) hx hb dMD_layout_8 rfl (fun h2 => ?_) (fun h2 => ?_)
    · refine lv_iconst (v := 0) hx hb dMD_layout_21 (by decide) ?_
      subst hQ
      exact zw_zret (D := (dC, dI)) (cl := vwCl) (A := A) () hx hb hr hlocks (Or.inl rfl) (Or.inr ⟨rfl, fun h => absurd h2 (Int32.not_lt.mpr h.1.2)⟩) (hP.sub [] rfl) (hK.sub [] rfl) (hD.sub [] (by decide) rfl) hS dMD_layout_22
    · refine lv_iload_n hx hb dMD_layout_11 rfl (lv_at hl 2 rfl) ?_
      refine lv_if_lt (tgt := 21) hx hb dMD_layout_12 rfl (fun h3 => ?_) (fun h3 => ?_)
      · refine lv_iconst (v := 0) hx hb dMD_layout_21 (by decide) ?_
        subst hQ
        exact zw_zret (D := (dC, dI)) (cl := vwCl) (A := A) () hx hb hr hlocks (Or.inl rfl) (Or.inr ⟨rfl, fun h => absurd h3 (Int32.not_lt.mpr h.2.1)⟩) (hP.sub [] rfl) (hK.sub [] rfl) (hD.sub [] (by decide) rfl) hS dMD_layout_22
      · refine lv_iload_n hx hb dMD_layout_15 rfl (lv_at hl 2 rfl) ?_
        refine lv_bipush (v := 20) hx hb dMD_layout_16 (by decide) ?_
        refine lv_icmp_le (tgt := 23) hx hb dMD_layout_18 rfl (fun h4 => ?_) (fun h4 => ?_)
        · refine lv_aload_n hx hb dMD_layout_23 rfl (lv_at hl 0 rfl) ?_
          refine lv_iload_n hx hb dMD_layout_24 rfl (lv_at hl 1 rfl) ?_
          refine va_put (D := (dC, dI)) (ci := 6) (v := .int a) (ty := .int) (C := RMD) (T := TMD) (N := 26) hx hb hz in_MD tyMD tokMD nokMD hown hK hP hD hS 0 rfl rfl 17 (by decide) (hz _ wd_601) (fun _ h9 => h9) rfl (by decide +kernel) rfl rfl (Nat.le_of_ble_eq_true rfl) dMD_layout_25 (fun H locs hP hD hS => ?_)
          have hP : va_P (dC, dI) vwCl [(h0, .inr (6, [.int 1, .ref b0, .ref b1, .int 0, .ref b2, .ref b3, .ref b4, .ref b5, .ref b6, .ref b7, .ref b8, .ref b9, .ref b10, .ref b11, .int (-1), .int 0, .int 0, .int a, .int 0, .int 0, .ref b12, .ref b13, .ref b14, .ref b15, .ref b16, .ref b17]))] H := hP
          have hD : va_D A [(h0, .inr (6, [.int 1, .ref b0, .ref b1, .int 0, .ref b2, .ref b3, .ref b4, .ref b5, .ref b6, .ref b7, .ref b8, .ref b9, .ref b10, .ref b11, .int (-1), .int 0, .int 0, .int a, .int 0, .int 0, .ref b12, .ref b13, .ref b14, .ref b15, .ref b16, .ref b17]))] := hD
          refine lv_aload_n hx hb dMD_layout_28 rfl (lv_at hl 0 rfl) ?_
          refine lv_iload_n hx hb dMD_layout_29 rfl (lv_at hl 2 rfl) ?_
          refine va_put (D := (dC, dI)) (ci := 6) (v := .int b) (ty := .int) (C := RMD) (T := TMD) (N := 26) hx hb hz in_MD tyMD tokMD nokMD hown hK hP hD hS 0 rfl rfl 18 (by decide) (hz _ wd_602) (fun _ h9 => h9) rfl (by decide +kernel) rfl rfl (Nat.le_of_ble_eq_true rfl) dMD_layout_30 (fun H locs hP hD hS => ?_)
          have hP : va_P (dC, dI) vwCl [(h0, .inr (6, [.int 1, .ref b0, .ref b1, .int 0, .ref b2, .ref b3, .ref b4, .ref b5, .ref b6, .ref b7, .ref b8, .ref b9, .ref b10, .ref b11, .int (-1), .int 0, .int 0, .int a, .int b, .int 0, .ref b12, .ref b13, .ref b14, .ref b15, .ref b16, .ref b17]))] H := hP
          have hD : va_D A [(h0, .inr (6, [.int 1, .ref b0, .ref b1, .int 0, .ref b2, .ref b3, .ref b4, .ref b5, .ref b6, .ref b7, .ref b8, .ref b9, .ref b10, .ref b11, .int (-1), .int 0, .int 0, .int a, .int b, .int 0, .ref b12, .ref b13, .ref b14, .ref b15, .ref b16, .ref b17]))] := hD
          refine lv_aload_n hx hb dMD_layout_33 rfl (lv_at hl 0 rfl) ?_
          refine lv_iload_n hx hb dMD_layout_34 rfl (lv_at hl 3 rfl) ?_
          refine va_put (D := (dC, dI)) (ci := 6) (v := .int f) (ty := .boolean) (C := RMD) (T := TMD) (N := 26) hx hb hz in_MD tyMD tokMD nokMD hown hK hP hD hS 0 rfl rfl 19 (by decide) (hz _ wd_603) (fun _ h9 => h9) rfl (by decide +kernel) (by rcases hf with h | h <;> (subst h; rfl)) (by rcases hf with h | h <;> (subst h; rfl)) (Nat.le_of_ble_eq_true rfl) dMD_layout_35 (fun H locs hP hD hS => ?_)
          have hP : va_P (dC, dI) vwCl [(h0, .inr (6, [.int 1, .ref b0, .ref b1, .int 0, .ref b2, .ref b3, .ref b4, .ref b5, .ref b6, .ref b7, .ref b8, .ref b9, .ref b10, .ref b11, .int (-1), .int 0, .int 0, .int a, .int b, .int f, .ref b12, .ref b13, .ref b14, .ref b15, .ref b16, .ref b17]))] H := hP
          have hD : va_D A [(h0, .inr (6, [.int 1, .ref b0, .ref b1, .int 0, .ref b2, .ref b3, .ref b4, .ref b5, .ref b6, .ref b7, .ref b8, .ref b9, .ref b10, .ref b11, .int (-1), .int 0, .int 0, .int a, .int b, .int f, .ref b12, .ref b13, .ref b14, .ref b15, .ref b16, .ref b17]))] := hD
          refine lv_iconst (v := 1) hx hb dMD_layout_38 (by decide) ?_
          subst hQ
          exact zw_zret (D := (dC, dI)) (cl := vwCl) (A := A) () hx hb hr hlocks (Or.inr rfl) (Or.inl ⟨rfl, ⟨Int32.not_lt.mp h1, Int32.not_lt.mp h2⟩, Int32.not_lt.mp h3, h4⟩) (hP.sub [] rfl) (hK.sub [] rfl) (hD.sub [] (by decide) rfl) hS dMD_layout_39
        · refine lv_iconst (v := 0) hx hb dMD_layout_21 (by decide) ?_
          subst hQ
          exact zw_zret (D := (dC, dI)) (cl := vwCl) (A := A) () hx hb hr hlocks (Or.inl rfl) (Or.inr ⟨rfl, fun h => absurd h.2.2 h4⟩) (hP.sub [] rfl) (hK.sub [] rfl) (hD.sub [] (by decide) rfl) hS dMD_layout_22

set_option maxHeartbeats 4000000 in
set_option maxRecDepth 100000 in
theorem c_MD_measure (l : Launch) (dC : Nat → ClassId) (dI : Nat → Nat → Nat) (h0 : Nat) (b0 : Nat) (b1 : Nat) (b2 : Nat) (b3 : Nat) (b4 : Nat) (b5 : Nat) (b6 : Nat) (b7 : Nat) (b8 : Nat) (b9 : Nat) (b10 : Nat) (b11 : Nat) (b12 : Nat) (b13 : Nat) (b14 : Nat) (b15 : Nat) (b16 : Nat) (b17 : Nat) (kb12 : ClassId) (kb13 : ClassId) (fb12 : Nat → Int32) (fb13 : Nat → Int32) : zw_Mv (S := (Nat → Int32) × (Nat → Int32)) l yMD_measure wMD_measure ({ frames := 0, cells := 0, slots := 0, locals := 0 }) [.ref h0] (dC, dI) vwCl [(h0, .inr (6, [.int 1, .ref b0, .ref b1, .int 0, .ref b2, .ref b3, .ref b4, .ref b5, .ref b6, .ref b7, .ref b8, .ref b9, .ref b10, .ref b11, .int (-1), .int 0, .int 0, .int 0, .int 0, .int 0, .ref b12, .ref b13, .ref b14, .ref b15, .ref b16, .ref b17])), (b12, .inl (kb12, 12, .inl fb12)), (b13, .inl (kb13, 12, .inl fb13))] [(kb12, .int), (kb13, .int)] (fun _ _ => True) (fun u => match u with | (ul, um) => True) (fun u => match u with | (ul, um) => [(h0, .inr (6, [.int 1, .ref b0, .ref b1, .int 0, .ref b2, .ref b3, .ref b4, .ref b5, .ref b6, .ref b7, .ref b8, .ref b9, .ref b10, .ref b11, .int (-1), .int 0, .int 0, .int 0, .int 0, .int 0, .ref b12, .ref b13, .ref b14, .ref b15, .ref b16, .ref b17])), (b12, .inl (kb12, 12, .inl ul)), (b13, .inl (kb13, 12, .inl um))]) (fun u => match u with | (ul, um) => []) 0 0 := by
  refine zw_headv (cc := cMD_measure) (maxL := 3) (ret := none) (by decide +kernel) rfl (Nat.le_of_ble_eq_true rfl) ?_
  intro p e s m below meth c ls A F hnm hA hP hK hD hS hX hl
  obtain ⟨hx, hb, hml, hr, hlocks, hown, hts⟩ := F
  have hown : s.vm.findClass "SpannedCellsModel" = some m.cls := hown
  have hz : ∀ w9 ∈ zT, w9.before [.ref h0].toArray s = true := fun w9 h => hts w9 (List.mem_cons_of_mem _ h)
  have hl : lv_has ls 3 [(0, .ref h0)] := hl
  refine z_q (fun Q hQ => ?_)
  refine lv_iconst (v := 0) hx hb dMD_measure_0 (by decide) ?_
  refine lv_istore_n hx hb dMD_measure_1 rfl hl (Nat.le_of_ble_eq_true rfl) rfl (fun ls hl => ?_)
  have hl : lv_has ls 3 [(1, .int 0), (0, .ref h0)] := hl
  refine zl_upW (σ := (Nat → Int32) × (Nat → Int32)) 12 (fun i x ls H locs => match x with | (gl, gm) => lv_has ls 3 [(1, .int (nI i)), (0, .ref h0)] ∧ va_P (dC, dI) vwCl [(h0, .inr (6, [.int 1, .ref b0, .ref b1, .int 0, .ref b2, .ref b3, .ref b4, .ref b5, .ref b6, .ref b7, .ref b8, .ref b9, .ref b10, .ref b11, .int (-1), .int 0, .int 0, .int 0, .int 0, .int 0, .ref b12, .ref b13, .ref b14, .ref b15, .ref b16, .ref b17])), (b12, .inl (kb12, 12, .inl gl)), (b13, .inl (kb13, 12, .inl gm))] H ∧ va_D A [(h0, .inr (6, [.int 1, .ref b0, .ref b1, .int 0, .ref b2, .ref b3, .ref b4, .ref b5, .ref b6, .ref b7, .ref b8, .ref b9, .ref b10, .ref b11, .int (-1), .int 0, .int 0, .int 0, .int 0, .int 0, .ref b12, .ref b13, .ref b14, .ref b15, .ref b16, .ref b17])), (b12, .inl (kb12, 12, .inl gl)), (b13, .inl (kb13, 12, .inl gm))] ∧ va_S A s.heap H locs) ?_ ?_ 0 (Nat.le_of_ble_eq_true rfl) (fb12, fb13) ls s.heap [] ⟨lv_sub hl [0, 1] rfl, hP, hD, hS⟩
  · intro x ls H locs hI
    obtain ⟨gl, gm⟩ := x
    obtain ⟨hl, hP, hD, hS⟩ := hI
    have hP : va_P (dC, dI) vwCl [(h0, .inr (6, [.int 1, .ref b0, .ref b1, .int 0, .ref b2, .ref b3, .ref b4, .ref b5, .ref b6, .ref b7, .ref b8, .ref b9, .ref b10, .ref b11, .int (-1), .int 0, .int 0, .int 0, .int 0, .int 0, .ref b12, .ref b13, .ref b14, .ref b15, .ref b16, .ref b17])), (b12, .inl (kb12, 12, .inl gl)), (b13, .inl (kb13, 12, .inl gm))] H := hP
    have hD : va_D A [(h0, .inr (6, [.int 1, .ref b0, .ref b1, .int 0, .ref b2, .ref b3, .ref b4, .ref b5, .ref b6, .ref b7, .ref b8, .ref b9, .ref b10, .ref b11, .int (-1), .int 0, .int 0, .int 0, .int 0, .int 0, .ref b12, .ref b13, .ref b14, .ref b15, .ref b16, .ref b17])), (b12, .inl (kb12, 12, .inl gl)), (b13, .inl (kb13, 12, .inl gm))] := hD
    have hl : lv_has ls 3 [(1, .int (nI 12)), (0, .ref h0)] := hl
    refine lv_iload_n hx hb dMD_measure_2 rfl (lv_at hl 0 rfl) ?_
    refine lv_bipush (v := 12) hx hb dMD_measure_3 (by decide) ?_
    refine lv_icmp_ge (tgt := 28) hx hb dMD_measure_5 rfl (fun _ => ?_) (fun h => absurd (by decide) h)
    refine lv_iconst (v := 1) hx hb dMD_measure_28 (by decide) ?_
    refine lv_istore_n hx hb dMD_measure_29 rfl hl (Nat.le_of_ble_eq_true rfl) rfl (fun ls hl => ?_)
    have hl : lv_has ls 3 [(1, .int 1), (0, .ref h0)] := hl
    refine zl_up (σ := Unit) 7 (fun i x ls => lv_has ls 3 [(1, .int (nI i)), (0, .ref h0)]) ?_ ?_ 1 (Nat.le_of_ble_eq_true rfl) () ls (lv_sub hl [0, 1] rfl)
    · intro x ls hI
      have hl := hI
      have hl : lv_has ls 3 [(1, .int (nI 7)), (0, .ref h0)] := hl
      refine lv_iload_n hx hb dMD_measure_30 rfl (lv_at hl 0 rfl) ?_
      refine lv_bipush (v := 7) hx hb dMD_measure_31 (by decide) ?_
      refine lv_icmp_ge (tgt := 73) hx hb dMD_measure_33 rfl (fun _ => ?_) (fun h => absurd (by decide) h)
      subst hQ
      exact zw_vret (D := (dC, dI)) (cl := vwCl) (A := A) (gl, gm) hx hb hr hlocks (trivial) (hP.sub [0, 1, 2] rfl) (hK.sub [] rfl) (hD.sub [0, 1, 2] (by decide) rfl) hS dMD_measure_73
    · intro i hi ih
      intro x ls hI
      have hl := hI
      have hl : lv_has ls 3 [(1, .int (nI i)), (0, .ref h0)] := hl
      refine lv_iload_n hx hb dMD_measure_30 rfl (lv_at hl 0 rfl) ?_
      refine lv_bipush (v := 7) hx hb dMD_measure_31 (by decide) ?_
      refine lv_icmp_ge (tgt := 73) hx hb dMD_measure_33 rfl (fun h => absurd h (z_ltN hi (by decide) rfl)) (fun _ => ?_)
      refine lv_iconst (v := 0) hx hb dMD_measure_36 (by decide) ?_
      refine lv_istore_n hx hb dMD_measure_37 rfl hl (Nat.le_of_ble_eq_true rfl) rfl (fun ls hl => ?_)
      have hl : lv_has ls 3 [(2, .int 0), (1, .int (nI i)), (0, .ref h0)] := hl
      refine lv_iload_n hx hb dMD_measure_38 rfl (lv_at hl 0 rfl) ?_
      refine lv_aload_n hx hb dMD_measure_39 rfl (lv_at hl 2 rfl) ?_
      refine va_get (D := (dC, dI)) (ci := 6) (v := .int 0) (C := RMD) (T := TMD) (N := 26) hx hb hz in_MD hown hK hP 0 rfl rfl 3 (by decide) (hz _ wd_587) (fun _ h9 => h9) rfl dMD_measure_40 ?_
      refine lv_icmp_ge (tgt := 67) hx hb dMD_measure_43 rfl (fun _ => ?_) (fun h => absurd (by decide) h)
      refine lv_iinc (k := 1) (v := nI (i + 1)) hx hb dMD_measure_67 hl rfl (by rw [show Int32.ofInt 1 = 1 from by decide]; exact nI_1 i) (Nat.le_of_ble_eq_true rfl) rfl (fun ls hl => ?_)
      have hl : lv_has ls 3 [(1, .int (nI (i + 1))), (2, .int 0), (0, .ref h0)] := hl
      refine lv_goto (tgt := 30) hx hb dMD_measure_70 rfl ?_
      exact ih () ls (lv_sub hl [0, 2] rfl)
  · intro i hi ih
    intro x ls H locs hI
    obtain ⟨gl, gm⟩ := x
    obtain ⟨hl, hP, hD, hS⟩ := hI
    have hP : va_P (dC, dI) vwCl [(h0, .inr (6, [.int 1, .ref b0, .ref b1, .int 0, .ref b2, .ref b3, .ref b4, .ref b5, .ref b6, .ref b7, .ref b8, .ref b9, .ref b10, .ref b11, .int (-1), .int 0, .int 0, .int 0, .int 0, .int 0, .ref b12, .ref b13, .ref b14, .ref b15, .ref b16, .ref b17])), (b12, .inl (kb12, 12, .inl gl)), (b13, .inl (kb13, 12, .inl gm))] H := hP
    have hD : va_D A [(h0, .inr (6, [.int 1, .ref b0, .ref b1, .int 0, .ref b2, .ref b3, .ref b4, .ref b5, .ref b6, .ref b7, .ref b8, .ref b9, .ref b10, .ref b11, .int (-1), .int 0, .int 0, .int 0, .int 0, .int 0, .ref b12, .ref b13, .ref b14, .ref b15, .ref b16, .ref b17])), (b12, .inl (kb12, 12, .inl gl)), (b13, .inl (kb13, 12, .inl gm))] := hD
    have hl : lv_has ls 3 [(1, .int (nI i)), (0, .ref h0)] := hl
    refine lv_iload_n hx hb dMD_measure_2 rfl (lv_at hl 0 rfl) ?_
    refine lv_bipush (v := 12) hx hb dMD_measure_3 (by decide) ?_
    refine lv_icmp_ge (tgt := 28) hx hb dMD_measure_5 rfl (fun h => absurd h (z_ltN hi (by decide) rfl)) (fun _ => ?_)
    refine lv_aload_n hx hb dMD_measure_8 rfl (lv_at hl 1 rfl) ?_
    refine va_get (D := (dC, dI)) (ci := 6) (v := .ref b12) (C := RMD) (T := TMD) (N := 26) hx hb hz in_MD hown hK hP 0 rfl rfl 20 (by decide) (hz _ wd_604) (fun _ h9 => h9) rfl dMD_measure_9 ?_
    refine lv_iload_n hx hb dMD_measure_12 rfl (lv_at hl 0 rfl) ?_
    refine lv_iconst (v := 0) hx hb dMD_measure_13 (by decide) ?_
    refine va_iast hx hb hK hP hD hS 1 0 rfl rfl (vp_in_nI (by omega) (by decide)) dMD_measure_14 (fun H locs hP hD hS => ?_)
    have hP : va_P (dC, dI) vwCl [(h0, .inr (6, [.int 1, .ref b0, .ref b1, .int 0, .ref b2, .ref b3, .ref b4, .ref b5, .ref b6, .ref b7, .ref b8, .ref b9, .ref b10, .ref b11, .int (-1), .int 0, .int 0, .int 0, .int 0, .int 0, .ref b12, .ref b13, .ref b14, .ref b15, .ref b16, .ref b17])), (b12, .inl (kb12, 12, .inl (upd gl (nI i).toNatClampNeg 0))), (b13, .inl (kb13, 12, .inl gm))] H := hP
    have hD : va_D A [(h0, .inr (6, [.int 1, .ref b0, .ref b1, .int 0, .ref b2, .ref b3, .ref b4, .ref b5, .ref b6, .ref b7, .ref b8, .ref b9, .ref b10, .ref b11, .int (-1), .int 0, .int 0, .int 0, .int 0, .int 0, .ref b12, .ref b13, .ref b14, .ref b15, .ref b16, .ref b17])), (b12, .inl (kb12, 12, .inl (upd gl (nI i).toNatClampNeg 0))), (b13, .inl (kb13, 12, .inl gm))] := hD
    refine lv_aload_n hx hb dMD_measure_15 rfl (lv_at hl 1 rfl) ?_
    refine va_get (D := (dC, dI)) (ci := 6) (v := .ref b13) (C := RMD) (T := TMD) (N := 26) hx hb hz in_MD hown hK hP 0 rfl rfl 21 (by decide) (hz _ wd_605) (fun _ h9 => h9) rfl dMD_measure_16 ?_
    refine lv_iload_n hx hb dMD_measure_19 rfl (lv_at hl 0 rfl) ?_
    refine lv_iconst (v := 0) hx hb dMD_measure_20 (by decide) ?_
    refine va_iast hx hb hK hP hD hS 2 1 rfl rfl (vp_in_nI (by omega) (by decide)) dMD_measure_21 (fun H locs hP hD hS => ?_)
    have hP : va_P (dC, dI) vwCl [(h0, .inr (6, [.int 1, .ref b0, .ref b1, .int 0, .ref b2, .ref b3, .ref b4, .ref b5, .ref b6, .ref b7, .ref b8, .ref b9, .ref b10, .ref b11, .int (-1), .int 0, .int 0, .int 0, .int 0, .int 0, .ref b12, .ref b13, .ref b14, .ref b15, .ref b16, .ref b17])), (b12, .inl (kb12, 12, .inl (upd gl (nI i).toNatClampNeg 0))), (b13, .inl (kb13, 12, .inl (upd gm (nI i).toNatClampNeg 0)))] H := hP
    have hD : va_D A [(h0, .inr (6, [.int 1, .ref b0, .ref b1, .int 0, .ref b2, .ref b3, .ref b4, .ref b5, .ref b6, .ref b7, .ref b8, .ref b9, .ref b10, .ref b11, .int (-1), .int 0, .int 0, .int 0, .int 0, .int 0, .ref b12, .ref b13, .ref b14, .ref b15, .ref b16, .ref b17])), (b12, .inl (kb12, 12, .inl (upd gl (nI i).toNatClampNeg 0))), (b13, .inl (kb13, 12, .inl (upd gm (nI i).toNatClampNeg 0)))] := hD
    refine lv_iinc (k := 0) (v := nI (i + 1)) hx hb dMD_measure_22 hl rfl (by rw [show Int32.ofInt 1 = 1 from by decide]; exact nI_1 i) (Nat.le_of_ble_eq_true rfl) rfl (fun ls hl => ?_)
    have hl : lv_has ls 3 [(1, .int (nI (i + 1))), (0, .ref h0)] := hl
    refine lv_goto (tgt := 2) hx hb dMD_measure_25 rfl ?_
    exact ih (upd gl (nI i).toNatClampNeg 0, upd gm (nI i).toNatClampNeg 0) ls H locs ⟨lv_sub hl [0, 1] rfl, hP, hD, hS⟩

set_option maxHeartbeats 4000000 in
set_option maxRecDepth 100000 in
theorem c_MD_findWidths (l : Launch) (dC : Nat → ClassId) (dI : Nat → Nat → Nat) (h0 : Nat) (b0 : Nat) (b1 : Nat) (b2 : Nat) (b3 : Nat) (b4 : Nat) (b5 : Nat) (b6 : Nat) (b7 : Nat) (b8 : Nat) (b9 : Nat) (b10 : Nat) (b11 : Nat) (b12 : Nat) (b13 : Nat) (b14 : Nat) (b15 : Nat) (b16 : Nat) (b17 : Nat) (kb12 : ClassId) (kb13 : ClassId) (kb14 : ClassId) (kb17 : ClassId) (fb12 : Nat → Int32) (fb13 : Nat → Int32) (fb14 : Nat → Int32) (fb17 : Nat → Int32) : zw_Mv (S := Unit) l yMD_findWidths wMD_findWidths ({ frames := 2, cells := 0, slots := 0, locals := 42 }) [.ref h0] (dC, dI) vwCl [(h0, .inr (6, [.int 1, .ref b0, .ref b1, .int 0, .ref b2, .ref b3, .ref b4, .ref b5, .ref b6, .ref b7, .ref b8, .ref b9, .ref b10, .ref b11, .int (-1), .int 0, .int 0, .int 0, .int 0, .int 0, .ref b12, .ref b13, .ref b14, .ref b15, .ref b16, .ref b17])), (b12, .inl (kb12, 12, .inl fb12)), (b13, .inl (kb13, 12, .inl fb13)), (b14, .inl (kb14, 12, .inl fb14)), (b17, .inl (kb17, 12, .inl fb17))] [(kb12, .int), (kb13, .int), (kb14, .int), (kb17, .int)] (fun _ _ => True) (fun (_ : Unit) => True) (fun (_ : Unit) => [(h0, .inr (6, [.int 1, .ref b0, .ref b1, .int 0, .ref b2, .ref b3, .ref b4, .ref b5, .ref b6, .ref b7, .ref b8, .ref b9, .ref b10, .ref b11, .int (-1), .int 0, .int 0, .int 0, .int 0, .int 0, .ref b12, .ref b13, .ref b14, .ref b15, .ref b16, .ref b17]))]) (fun (_ : Unit) => []) 0 0 := by
  refine zw_headv (cc := cMD_findWidths) (maxL := 6) (ret := none) (by decide +kernel) rfl (Nat.le_of_ble_eq_true rfl) ?_
  intro p e s m below meth c ls A F hnm hA hP hK hD hS hX hl
  obtain ⟨hx, hb, hml, hr, hlocks, hown, hts⟩ := F
  have hown : s.vm.findClass "SpannedCellsModel" = some m.cls := hown
  have hz : ∀ w9 ∈ zT, w9.before [.ref h0].toArray s = true := fun w9 h => hts w9 (List.mem_cons_of_mem _ h)
  have hl : lv_has ls 6 [(0, .ref h0)] := hl
  refine z_q (fun Q hQ => ?_)
  refine lv_aload_n hx hb dMD_findWidths_0 rfl (lv_at hl 0 rfl) ?_
  refine zw_callv (wr := [(b14, .inl (kb14, 12, .inl fb14)), (b17, .inl (kb17, 12, .inl fb17))]) hK hP hD hS hA [0, 1, 2] [3, 4] rfl rfl (by decide) (by decide) (va_runV (As := []) (rest := []) ⟨hx, hb, hml, hown, hz⟩ ((c_MD_measure l dC dI h0 b0 b1 b2 b3 b4 b5 b6 b7 b8 b9 b10 b11 b12 b13 b14 b15 b16 b17 kb12 kb13 fb12 fb13 ) s.heap.size) (cwV 0 hz (z_gV wd_747 wd_749 wd_20 wd_37 wd_750) rfl rfl rfl (by decide +kernel) ⟨Nat.le_of_ble_eq_true rfl, Nat.le_of_ble_eq_true rfl⟩) (zw_preV (q0 := 0) (q := (RMD, TMD, 26)) hK hP hD rfl rfl [0, 1, 2] (by decide) rfl [0, 1] rfl z_true (fun _ _ _ => trivial)) rfl rfl hl.1 rfl (lv_room (Nat.le_of_ble_eq_true rfl)) dMD_findWidths_1 ⟨Nat.le_of_ble_eq_true rfl, Nat.le_of_ble_eq_true rfl⟩) (fun u H locs h_r1 hP hD hK hS => ?_)
  obtain ⟨ul, um⟩ := u
  have hP : va_P (dC, dI) vwCl [(h0, .inr (6, [.int 1, .ref b0, .ref b1, .int 0, .ref b2, .ref b3, .ref b4, .ref b5, .ref b6, .ref b7, .ref b8, .ref b9, .ref b10, .ref b11, .int (-1), .int 0, .int 0, .int 0, .int 0, .int 0, .ref b12, .ref b13, .ref b14, .ref b15, .ref b16, .ref b17])), (b12, .inl (kb12, 12, .inl ul)), (b13, .inl (kb13, 12, .inl um)), (b14, .inl (kb14, 12, .inl fb14)), (b17, .inl (kb17, 12, .inl fb17))] H := hP.sub [2, 3, 4, 0, 1] rfl
  have hD : va_D A [(h0, .inr (6, [.int 1, .ref b0, .ref b1, .int 0, .ref b2, .ref b3, .ref b4, .ref b5, .ref b6, .ref b7, .ref b8, .ref b9, .ref b10, .ref b11, .int (-1), .int 0, .int 0, .int 0, .int 0, .int 0, .ref b12, .ref b13, .ref b14, .ref b15, .ref b16, .ref b17])), (b12, .inl (kb12, 12, .inl ul)), (b13, .inl (kb13, 12, .inl um)), (b14, .inl (kb14, 12, .inl fb14)), (b17, .inl (kb17, 12, .inl fb17))] := hD.sub [2, 3, 4, 0, 1] (by decide) rfl
  have hK : va_K (dC, dI) vwCl [(kb12, .int), (kb13, .int), (kb14, .int), (kb17, .int)] s := hK
  refine lv_aload_n hx hb dMD_findWidths_4 rfl (lv_at hl 0 rfl) ?_
  refine va_get (D := (dC, dI)) (ci := 6) (v := .int 0) (C := RMD) (T := TMD) (N := 26) hx hb hz in_MD hown hK hP 0 rfl rfl 19 (by decide) (hz _ wd_603) (fun _ h9 => h9) rfl dMD_findWidths_5 ?_
  refine lv_if_eq (tgt := 16) hx hb dMD_findWidths_8 rfl (fun _ => ?_) (fun h => absurd (by decide) h)
  refine lv_aload_n hx hb dMD_findWidths_16 rfl (lv_at hl 0 rfl) ?_
  refine vp_callSi (W.runV (As := []) (rest := []) ⟨hx, hb, hml, hown, hz⟩ (c_MD_columns l dC dI h0 b0 b1 b2 b3 b4 b5 b6 b7 b8 b9 b10 b11 b12 b13 b14 b15 b16 b17 ) (cwV 0 hz (z_gV wd_732 wd_701 wd_702 wd_37 wd_703) rfl rfl rfl (by decide +kernel) ⟨Nat.le_of_ble_eq_true rfl, Nat.le_of_ble_eq_true rfl⟩) (zp_preV (q0 := 0) (q := (RMD, TMD, 26)) hK hP rfl rfl [0] rfl [] rfl z_true (fun _ _ _ => trivial)) rfl rfl hl.1 rfl (lv_room (Nat.le_of_ble_eq_true rfl)) dMD_findWidths_17 ⟨Nat.le_of_ble_eq_true rfl, Nat.le_of_ble_eq_true rfl⟩) (fun r2 h_r2 => ?_)
  have h_r2 : r2 = 0 := h_r2
  subst h_r2
  refine lv_istore_n hx hb dMD_findWidths_20 rfl hl (Nat.le_of_ble_eq_true rfl) rfl (fun ls hl => ?_)
  have hl : lv_has ls 6 [(1, .int 0), (0, .ref h0)] := hl
  refine lv_aload_n hx hb dMD_findWidths_21 rfl (lv_at hl 1 rfl) ?_
  refine va_get (D := (dC, dI)) (ci := 6) (v := .ref b12) (C := RMD) (T := TMD) (N := 26) hx hb hz in_MD hown hK hP 0 rfl rfl 20 (by decide) (hz _ wd_604) (fun _ h9 => h9) rfl dMD_findWidths_22 ?_
  refine lv_iconst (v := 0) hx hb dMD_findWidths_25 (by decide) ?_
  refine lv_iload_n hx hb dMD_findWidths_26 rfl (lv_at hl 0 rfl) ?_
  refine vp_callSi (W.runS (As := [.ref b12, .int 0, .int 0]) (rest := []) ⟨hx, hb, hml, hown, hz⟩ (c_MD_sumOf l dC dI b12 ) (va_cwS 3 hz (z_gS wd_762 wd_763 wd_37 wd_764) rfl rfl rfl (by decide +kernel) ⟨Nat.le_of_ble_eq_true rfl, Nat.le_of_ble_eq_true rfl⟩) (zp_preS hK hP [] rfl [] rfl z_true (fun _ _ _ => trivial)) rfl rfl hl.1 rfl (lv_room (Nat.le_of_ble_eq_true rfl)) dMD_findWidths_27 ⟨Nat.le_of_ble_eq_true rfl, Nat.le_of_ble_eq_true rfl⟩) (fun r3 h_r3 => ?_)
  have h_r3 : r3 = 0 := h_r3
  subst h_r3
  refine lv_istore_n hx hb dMD_findWidths_30 rfl hl (Nat.le_of_ble_eq_true rfl) rfl (fun ls hl => ?_)
  have hl : lv_has ls 6 [(2, .int 0), (1, .int 0), (0, .ref h0)] := hl
  refine lv_aload_n hx hb dMD_findWidths_31 rfl (lv_at hl 2 rfl) ?_
  refine va_get (D := (dC, dI)) (ci := 6) (v := .ref b13) (C := RMD) (T := TMD) (N := 26) hx hb hz in_MD hown hK hP 0 rfl rfl 21 (by decide) (hz _ wd_605) (fun _ h9 => h9) rfl dMD_findWidths_32 ?_
  refine lv_iconst (v := 0) hx hb dMD_findWidths_35 (by decide) ?_
  refine lv_iload_n hx hb dMD_findWidths_36 rfl (lv_at hl 1 rfl) ?_
  refine vp_callSi (W.runS (As := [.ref b13, .int 0, .int 0]) (rest := []) ⟨hx, hb, hml, hown, hz⟩ (c_MD_sumOf l dC dI b13 ) (va_cwS 3 hz (z_gS wd_762 wd_763 wd_37 wd_764) rfl rfl rfl (by decide +kernel) ⟨Nat.le_of_ble_eq_true rfl, Nat.le_of_ble_eq_true rfl⟩) (zp_preS hK hP [] rfl [] rfl z_true (fun _ _ _ => trivial)) rfl rfl hl.1 rfl (lv_room (Nat.le_of_ble_eq_true rfl)) dMD_findWidths_37 ⟨Nat.le_of_ble_eq_true rfl, Nat.le_of_ble_eq_true rfl⟩) (fun r4 h_r4 => ?_)
  have h_r4 : r4 = 0 := h_r4
  subst h_r4
  refine lv_istore_n hx hb dMD_findWidths_40 rfl hl (Nat.le_of_ble_eq_true rfl) rfl (fun ls hl => ?_)
  have hl : lv_has ls 6 [(3, .int 0), (2, .int 0), (1, .int 0), (0, .ref h0)] := hl
  refine lv_aload_n hx hb dMD_findWidths_41 rfl (lv_at hl 3 rfl) ?_
  refine vp_callSi (W.runV (As := []) (rest := []) ⟨hx, hb, hml, hown, hz⟩ (c_MD_room l dC dI h0 b0 b1 b2 b3 b4 b5 b6 b7 b8 b9 b10 b11 b12 b13 b14 b15 b16 b17 ) (cwV 0 hz (z_gV wd_773 wd_775 wd_25 wd_37 wd_776) rfl rfl rfl (by decide +kernel) ⟨Nat.le_of_ble_eq_true rfl, Nat.le_of_ble_eq_true rfl⟩) (zp_preV (q0 := 0) (q := (RMD, TMD, 26)) hK hP rfl rfl [0] rfl [] rfl z_true (fun _ _ _ => trivial)) rfl rfl hl.1 rfl (lv_room (Nat.le_of_ble_eq_true rfl)) dMD_findWidths_42 ⟨Nat.le_of_ble_eq_true rfl, Nat.le_of_ble_eq_true rfl⟩) (fun r5 h_r5 => ?_)
  have h_r5 : r5 = 0 := h_r5
  subst h_r5
  refine lv_iload_n hx hb dMD_findWidths_45 rfl (lv_at hl 0 rfl) ?_
  refine lv_icmp_le (tgt := 53) hx hb dMD_findWidths_46 rfl (fun _ => ?_) (fun h => absurd (by decide) h)
  refine lv_iconst (v := 0) hx hb dMD_findWidths_53 (by decide) ?_
  refine lv_istore hx hb dMD_findWidths_54 hl (Nat.le_of_ble_eq_true rfl) rfl (fun ls hl => ?_)
  have hl : lv_has ls 6 [(4, .int 0), (3, .int 0), (2, .int 0), (1, .int 0), (0, .ref h0)] := hl
  refine lv_iconst (v := 0) hx hb dMD_findWidths_56 (by decide) ?_
  refine lv_istore hx hb dMD_findWidths_57 hl (Nat.le_of_ble_eq_true rfl) rfl (fun ls hl => ?_)
  have hl : lv_has ls 6 [(5, .int 0), (4, .int 0), (3, .int 0), (2, .int 0), (1, .int 0), (0, .ref h0)] := hl
  refine zl_upW (σ := (Nat → Int32) × (Nat → Int32)) 12 (fun i x ls H locs => match x with | (gw, gx) => lv_has ls 6 [(5, .int (nI i)), (4, .int 0), (3, .int 0), (2, .int 0), (1, .int 0), (0, .ref h0)] ∧ va_P (dC, dI) vwCl [(h0, .inr (6, [.int 1, .ref b0, .ref b1, .int 0, .ref b2, .ref b3, .ref b4, .ref b5, .ref b6, .ref b7, .ref b8, .ref b9, .ref b10, .ref b11, .int (-1), .int 0, .int 0, .int 0, .int 0, .int 0, .ref b12, .ref b13, .ref b14, .ref b15, .ref b16, .ref b17])), (b12, .inl (kb12, 12, .inl ul)), (b13, .inl (kb13, 12, .inl um)), (b14, .inl (kb14, 12, .inl gw)), (b17, .inl (kb17, 12, .inl gx))] H ∧ va_D A [(h0, .inr (6, [.int 1, .ref b0, .ref b1, .int 0, .ref b2, .ref b3, .ref b4, .ref b5, .ref b6, .ref b7, .ref b8, .ref b9, .ref b10, .ref b11, .int (-1), .int 0, .int 0, .int 0, .int 0, .int 0, .ref b12, .ref b13, .ref b14, .ref b15, .ref b16, .ref b17])), (b12, .inl (kb12, 12, .inl ul)), (b13, .inl (kb13, 12, .inl um)), (b14, .inl (kb14, 12, .inl gw)), (b17, .inl (kb17, 12, .inl gx))] ∧ va_S A s.heap H locs) ?_ ?_ 0 (Nat.le_of_ble_eq_true rfl) (fb14, fb17) ls H locs ⟨lv_sub hl [0, 1, 2, 3, 4, 5] rfl, hP, hD, hS⟩
  · intro x ls H locs hI
    obtain ⟨gw, gx⟩ := x
    obtain ⟨hl, hP, hD, hS⟩ := hI
    have hP : va_P (dC, dI) vwCl [(h0, .inr (6, [.int 1, .ref b0, .ref b1, .int 0, .ref b2, .ref b3, .ref b4, .ref b5, .ref b6, .ref b7, .ref b8, .ref b9, .ref b10, .ref b11, .int (-1), .int 0, .int 0, .int 0, .int 0, .int 0, .ref b12, .ref b13, .ref b14, .ref b15, .ref b16, .ref b17])), (b12, .inl (kb12, 12, .inl ul)), (b13, .inl (kb13, 12, .inl um)), (b14, .inl (kb14, 12, .inl gw)), (b17, .inl (kb17, 12, .inl gx))] H := hP
    have hD : va_D A [(h0, .inr (6, [.int 1, .ref b0, .ref b1, .int 0, .ref b2, .ref b3, .ref b4, .ref b5, .ref b6, .ref b7, .ref b8, .ref b9, .ref b10, .ref b11, .int (-1), .int 0, .int 0, .int 0, .int 0, .int 0, .ref b12, .ref b13, .ref b14, .ref b15, .ref b16, .ref b17])), (b12, .inl (kb12, 12, .inl ul)), (b13, .inl (kb13, 12, .inl um)), (b14, .inl (kb14, 12, .inl gw)), (b17, .inl (kb17, 12, .inl gx))] := hD
    have hl : lv_has ls 6 [(5, .int (nI 12)), (4, .int 0), (3, .int 0), (2, .int 0), (1, .int 0), (0, .ref h0)] := hl
    refine lv_iload hx hb dMD_findWidths_59 (lv_at hl 0 rfl) ?_
    refine lv_bipush (v := 12) hx hb dMD_findWidths_61 (by decide) ?_
    refine lv_icmp_ge (tgt := 138) hx hb dMD_findWidths_63 rfl (fun _ => ?_) (fun h => absurd (by decide) h)
    refine lv_aload_n hx hb dMD_findWidths_138 rfl (lv_at hl 5 rfl) ?_
    refine vp_callSi (W.runV (As := []) (rest := []) ⟨hx, hb, hml, hown, hz⟩ (c_MD_room l dC dI h0 b0 b1 b2 b3 b4 b5 b6 b7 b8 b9 b10 b11 b12 b13 b14 b15 b16 b17 ) (cwV 0 hz (z_gV wd_773 wd_775 wd_25 wd_37 wd_776) rfl rfl rfl (by decide +kernel) ⟨Nat.le_of_ble_eq_true rfl, Nat.le_of_ble_eq_true rfl⟩) (zp_preV (q0 := 0) (q := (RMD, TMD, 26)) hK hP rfl rfl [0] rfl [] rfl z_true (fun _ _ _ => trivial)) rfl rfl hl.1 rfl (lv_room (Nat.le_of_ble_eq_true rfl)) dMD_findWidths_139 ⟨Nat.le_of_ble_eq_true rfl, Nat.le_of_ble_eq_true rfl⟩) (fun r6 h_r6 => ?_)
    have h_r6 : r6 = 0 := h_r6
    subst h_r6
    refine lv_iload_n hx hb dMD_findWidths_142 rfl (lv_at hl 3 rfl) ?_
    refine lv_icmp_le (tgt := 171) hx hb dMD_findWidths_143 rfl (fun _ => ?_) (fun h => absurd (by decide) h)
    subst hQ
    exact zw_vret (D := (dC, dI)) (cl := vwCl) (A := A) () hx hb hr hlocks (trivial) (hP.sub [0] rfl) (hK.sub [] rfl) (hD.sub [0] (by decide) rfl) hS dMD_findWidths_171
  · intro i hi ih
    intro x ls H locs hI
    obtain ⟨gw, gx⟩ := x
    obtain ⟨hl, hP, hD, hS⟩ := hI
    have hP : va_P (dC, dI) vwCl [(h0, .inr (6, [.int 1, .ref b0, .ref b1, .int 0, .ref b2, .ref b3, .ref b4, .ref b5, .ref b6, .ref b7, .ref b8, .ref b9, .ref b10, .ref b11, .int (-1), .int 0, .int 0, .int 0, .int 0, .int 0, .ref b12, .ref b13, .ref b14, .ref b15, .ref b16, .ref b17])), (b12, .inl (kb12, 12, .inl ul)), (b13, .inl (kb13, 12, .inl um)), (b14, .inl (kb14, 12, .inl gw)), (b17, .inl (kb17, 12, .inl gx))] H := hP
    have hD : va_D A [(h0, .inr (6, [.int 1, .ref b0, .ref b1, .int 0, .ref b2, .ref b3, .ref b4, .ref b5, .ref b6, .ref b7, .ref b8, .ref b9, .ref b10, .ref b11, .int (-1), .int 0, .int 0, .int 0, .int 0, .int 0, .ref b12, .ref b13, .ref b14, .ref b15, .ref b16, .ref b17])), (b12, .inl (kb12, 12, .inl ul)), (b13, .inl (kb13, 12, .inl um)), (b14, .inl (kb14, 12, .inl gw)), (b17, .inl (kb17, 12, .inl gx))] := hD
    have hl : lv_has ls 6 [(5, .int (nI i)), (4, .int 0), (3, .int 0), (2, .int 0), (1, .int 0), (0, .ref h0)] := hl
    refine lv_iload hx hb dMD_findWidths_59 (lv_at hl 0 rfl) ?_
    refine lv_bipush (v := 12) hx hb dMD_findWidths_61 (by decide) ?_
    refine lv_icmp_ge (tgt := 138) hx hb dMD_findWidths_63 rfl (fun h => absurd h (z_ltN hi (by decide) rfl)) (fun _ => ?_)
    refine lv_aload_n hx hb dMD_findWidths_66 rfl (lv_at hl 5 rfl) ?_
    refine va_get (D := (dC, dI)) (ci := 6) (v := .ref b14) (C := RMD) (T := TMD) (N := 26) hx hb hz in_MD hown hK hP 0 rfl rfl 22 (by decide) (hz _ wd_606) (fun _ h9 => h9) rfl dMD_findWidths_67 ?_
    refine lv_iload hx hb dMD_findWidths_70 (lv_at hl 0 rfl) ?_
    refine lv_iload hx hb dMD_findWidths_72 (lv_at hl 1 rfl) ?_
    refine lv_if_eq (tgt := 87) hx hb dMD_findWidths_74 rfl (fun _ => ?_) (fun h => absurd (by decide) h)
    refine lv_aload_n hx hb dMD_findWidths_87 rfl (lv_at hl 5 rfl) ?_
    refine va_get (D := (dC, dI)) (ci := 6) (v := .ref b12) (C := RMD) (T := TMD) (N := 26) hx hb hz in_MD hown hK hP 0 rfl rfl 20 (by decide) (hz _ wd_604) (fun _ h9 => h9) rfl dMD_findWidths_88 ?_
    refine lv_iload hx hb dMD_findWidths_91 (lv_at hl 0 rfl) ?_
    refine va_iald hx hb hK hP 1 0 rfl rfl (vp_in_nI (by omega) (by decide)) dMD_findWidths_93 ?_
    refine va_iast hx hb hK hP hD hS 3 2 rfl rfl (vp_in_nI (by omega) (by decide)) dMD_findWidths_94 (fun H locs hP hD hS => ?_)
    have hP : va_P (dC, dI) vwCl [(h0, .inr (6, [.int 1, .ref b0, .ref b1, .int 0, .ref b2, .ref b3, .ref b4, .ref b5, .ref b6, .ref b7, .ref b8, .ref b9, .ref b10, .ref b11, .int (-1), .int 0, .int 0, .int 0, .int 0, .int 0, .ref b12, .ref b13, .ref b14, .ref b15, .ref b16, .ref b17])), (b12, .inl (kb12, 12, .inl ul)), (b13, .inl (kb13, 12, .inl um)), (b14, .inl (kb14, 12, .inl (upd gw (nI i).toNatClampNeg (ul (nI i).toNatClampNeg)))), (b17, .inl (kb17, 12, .inl gx))] H := hP
    have hD : va_D A [(h0, .inr (6, [.int 1, .ref b0, .ref b1, .int 0, .ref b2, .ref b3, .ref b4, .ref b5, .ref b6, .ref b7, .ref b8, .ref b9, .ref b10, .ref b11, .int (-1), .int 0, .int 0, .int 0, .int 0, .int 0, .ref b12, .ref b13, .ref b14, .ref b15, .ref b16, .ref b17])), (b12, .inl (kb12, 12, .inl ul)), (b13, .inl (kb13, 12, .inl um)), (b14, .inl (kb14, 12, .inl (upd gw (nI i).toNatClampNeg (ul (nI i).toNatClampNeg)))), (b17, .inl (kb17, 12, .inl gx))] := hD
    refine lv_aload_n hx hb dMD_findWidths_95 rfl (lv_at hl 5 rfl) ?_
    refine va_get (D := (dC, dI)) (ci := 6) (v := .ref b17) (C := RMD) (T := TMD) (N := 26) hx hb hz in_MD hown hK hP 0 rfl rfl 25 (by decide) (hz _ wd_609) (fun _ h9 => h9) rfl dMD_findWidths_96 ?_
    refine lv_iload hx hb dMD_findWidths_99 (lv_at hl 0 rfl) ?_
    refine lv_iload hx hb dMD_findWidths_101 (lv_at hl 1 rfl) ?_
    refine lv_if_eq (tgt := 116) hx hb dMD_findWidths_103 rfl (fun _ => ?_) (fun h => absurd (by decide) h)
    refine lv_aload_n hx hb dMD_findWidths_116 rfl (lv_at hl 5 rfl) ?_
    refine va_get (D := (dC, dI)) (ci := 6) (v := .ref b13) (C := RMD) (T := TMD) (N := 26) hx hb hz in_MD hown hK hP 0 rfl rfl 21 (by decide) (hz _ wd_605) (fun _ h9 => h9) rfl dMD_findWidths_117 ?_
    refine lv_iload hx hb dMD_findWidths_120 (lv_at hl 0 rfl) ?_
    refine va_iald hx hb hK hP 2 1 rfl rfl (vp_in_nI (by omega) (by decide)) dMD_findWidths_122 ?_
    refine lv_aload_n hx hb dMD_findWidths_123 rfl (lv_at hl 5 rfl) ?_
    refine va_get (D := (dC, dI)) (ci := 6) (v := .ref b12) (C := RMD) (T := TMD) (N := 26) hx hb hz in_MD hown hK hP 0 rfl rfl 20 (by decide) (hz _ wd_604) (fun _ h9 => h9) rfl dMD_findWidths_124 ?_
    refine lv_iload hx hb dMD_findWidths_127 (lv_at hl 0 rfl) ?_
    refine va_iald hx hb hK hP 1 0 rfl rfl (vp_in_nI (by omega) (by decide)) dMD_findWidths_129 ?_
    refine lv_isub hx hb dMD_findWidths_130 ?_
    refine va_iast hx hb hK hP hD hS 4 3 rfl rfl (vp_in_nI (by omega) (by decide)) dMD_findWidths_131 (fun H locs hP hD hS => ?_)
    have hP : va_P (dC, dI) vwCl [(h0, .inr (6, [.int 1, .ref b0, .ref b1, .int 0, .ref b2, .ref b3, .ref b4, .ref b5, .ref b6, .ref b7, .ref b8, .ref b9, .ref b10, .ref b11, .int (-1), .int 0, .int 0, .int 0, .int 0, .int 0, .ref b12, .ref b13, .ref b14, .ref b15, .ref b16, .ref b17])), (b12, .inl (kb12, 12, .inl ul)), (b13, .inl (kb13, 12, .inl um)), (b14, .inl (kb14, 12, .inl (upd gw (nI i).toNatClampNeg (ul (nI i).toNatClampNeg)))), (b17, .inl (kb17, 12, .inl (upd gx (nI i).toNatClampNeg ((um (nI i).toNatClampNeg) - (ul (nI i).toNatClampNeg)))))] H := hP
    have hD : va_D A [(h0, .inr (6, [.int 1, .ref b0, .ref b1, .int 0, .ref b2, .ref b3, .ref b4, .ref b5, .ref b6, .ref b7, .ref b8, .ref b9, .ref b10, .ref b11, .int (-1), .int 0, .int 0, .int 0, .int 0, .int 0, .ref b12, .ref b13, .ref b14, .ref b15, .ref b16, .ref b17])), (b12, .inl (kb12, 12, .inl ul)), (b13, .inl (kb13, 12, .inl um)), (b14, .inl (kb14, 12, .inl (upd gw (nI i).toNatClampNeg (ul (nI i).toNatClampNeg)))), (b17, .inl (kb17, 12, .inl (upd gx (nI i).toNatClampNeg ((um (nI i).toNatClampNeg) - (ul (nI i).toNatClampNeg)))))] := hD
    refine lv_iinc (k := 0) (v := nI (i + 1)) hx hb dMD_findWidths_132 hl rfl (by rw [show Int32.ofInt 1 = 1 from by decide]; exact nI_1 i) (Nat.le_of_ble_eq_true rfl) rfl (fun ls hl => ?_)
    have hl : lv_has ls 6 [(5, .int (nI (i + 1))), (4, .int 0), (3, .int 0), (2, .int 0), (1, .int 0), (0, .ref h0)] := hl
    refine lv_goto (tgt := 59) hx hb dMD_findWidths_135 rfl ?_
    exact ih (upd gw (nI i).toNatClampNeg (ul (nI i).toNatClampNeg), upd gx (nI i).toNatClampNeg ((um (nI i).toNatClampNeg) - (ul (nI i).toNatClampNeg))) ls H locs ⟨lv_sub hl [0, 1, 2, 3, 4, 5] rfl, hP, hD, hS⟩

set_option maxHeartbeats 4000000 in
set_option maxRecDepth 100000 in
theorem c_MD_findHeights (l : Launch) (dC : Nat → ClassId) (dI : Nat → Nat → Nat) (h0 : Nat) (b0 : Nat) (b1 : Nat) (b2 : Nat) (b3 : Nat) (b4 : Nat) (b5 : Nat) (b6 : Nat) (b7 : Nat) (b8 : Nat) (b9 : Nat) (b10 : Nat) (b11 : Nat) (b12 : Nat) (b13 : Nat) (b14 : Nat) (b15 : Nat) (b16 : Nat) (b17 : Nat) (kb15 : ClassId) (fb15 : Nat → Int32) : zw_Mv (S := Unit) l yMD_findHeights wMD_findHeights ({ frames := 0, cells := 0, slots := 0, locals := 0 }) [.ref h0] (dC, dI) vwCl [(h0, .inr (6, [.int 1, .ref b0, .ref b1, .int 0, .ref b2, .ref b3, .ref b4, .ref b5, .ref b6, .ref b7, .ref b8, .ref b9, .ref b10, .ref b11, .int (-1), .int 0, .int 0, .int 0, .int 0, .int 0, .ref b12, .ref b13, .ref b14, .ref b15, .ref b16, .ref b17])), (b15, .inl (kb15, 12, .inl fb15))] [(kb15, .int)] (fun _ _ => True) (fun (_ : Unit) => True) (fun (_ : Unit) => []) (fun (_ : Unit) => []) 0 0 := by
  refine zw_headv (cc := cMD_findHeights) (maxL := 5) (ret := none) (by decide +kernel) rfl (Nat.le_of_ble_eq_true rfl) ?_
  intro p e s m below meth c ls A F hnm hA hP hK hD hS hX hl
  obtain ⟨hx, hb, hml, hr, hlocks, hown, hts⟩ := F
  have hown : s.vm.findClass "SpannedCellsModel" = some m.cls := hown
  have hz : ∀ w9 ∈ zT, w9.before [.ref h0].toArray s = true := fun w9 h => hts w9 (List.mem_cons_of_mem _ h)
  have hl : lv_has ls 5 [(0, .ref h0)] := hl
  refine z_q (fun Q hQ => ?_)
  refine lv_iconst (v := 0) hx hb dMD_findHeights_0 (by decide) ?_
  refine lv_istore_n hx hb dMD_findHeights_1 rfl hl (Nat.le_of_ble_eq_true rfl) rfl (fun ls hl => ?_)
  have hl : lv_has ls 5 [(1, .int 0), (0, .ref h0)] := hl
  refine zl_upW (σ := (Nat → Int32)) 12 (fun i gh ls H locs => lv_has ls 5 [(1, .int (nI i)), (0, .ref h0)] ∧ va_P (dC, dI) vwCl [(h0, .inr (6, [.int 1, .ref b0, .ref b1, .int 0, .ref b2, .ref b3, .ref b4, .ref b5, .ref b6, .ref b7, .ref b8, .ref b9, .ref b10, .ref b11, .int (-1), .int 0, .int 0, .int 0, .int 0, .int 0, .ref b12, .ref b13, .ref b14, .ref b15, .ref b16, .ref b17])), (b15, .inl (kb15, 12, .inl gh))] H ∧ va_D A [(h0, .inr (6, [.int 1, .ref b0, .ref b1, .int 0, .ref b2, .ref b3, .ref b4, .ref b5, .ref b6, .ref b7, .ref b8, .ref b9, .ref b10, .ref b11, .int (-1), .int 0, .int 0, .int 0, .int 0, .int 0, .ref b12, .ref b13, .ref b14, .ref b15, .ref b16, .ref b17])), (b15, .inl (kb15, 12, .inl gh))] ∧ va_S A s.heap H locs) ?_ ?_ 0 (Nat.le_of_ble_eq_true rfl) fb15 ls s.heap [] ⟨lv_sub hl [0, 1] rfl, hP, hD, hS⟩
  · intro x ls H locs hI
    obtain ⟨gh, rfl⟩ : ∃ z, z = x := ⟨_, rfl⟩
    obtain ⟨hl, hP, hD, hS⟩ := hI
    have hP : va_P (dC, dI) vwCl [(h0, .inr (6, [.int 1, .ref b0, .ref b1, .int 0, .ref b2, .ref b3, .ref b4, .ref b5, .ref b6, .ref b7, .ref b8, .ref b9, .ref b10, .ref b11, .int (-1), .int 0, .int 0, .int 0, .int 0, .int 0, .ref b12, .ref b13, .ref b14, .ref b15, .ref b16, .ref b17])), (b15, .inl (kb15, 12, .inl gh))] H := hP
    have hD : va_D A [(h0, .inr (6, [.int 1, .ref b0, .ref b1, .int 0, .ref b2, .ref b3, .ref b4, .ref b5, .ref b6, .ref b7, .ref b8, .ref b9, .ref b10, .ref b11, .int (-1), .int 0, .int 0, .int 0, .int 0, .int 0, .ref b12, .ref b13, .ref b14, .ref b15, .ref b16, .ref b17])), (b15, .inl (kb15, 12, .inl gh))] := hD
    have hl : lv_has ls 5 [(1, .int (nI 12)), (0, .ref h0)] := hl
    refine lv_iload_n hx hb dMD_findHeights_2 rfl (lv_at hl 0 rfl) ?_
    refine lv_bipush (v := 12) hx hb dMD_findHeights_3 (by decide) ?_
    refine lv_icmp_ge (tgt := 21) hx hb dMD_findHeights_5 rfl (fun _ => ?_) (fun h => absurd (by decide) h)
    refine lv_iconst (v := 1) hx hb dMD_findHeights_21 (by decide) ?_
    refine lv_istore_n hx hb dMD_findHeights_22 rfl hl (Nat.le_of_ble_eq_true rfl) rfl (fun ls hl => ?_)
    have hl : lv_has ls 5 [(1, .int 1), (0, .ref h0)] := hl
    refine zl_up (σ := Unit) 13 (fun i x ls => lv_has ls 5 [(1, .int (nI i)), (0, .ref h0)]) ?_ ?_ 1 (Nat.le_of_ble_eq_true rfl) () ls (lv_sub hl [0, 1] rfl)
    · intro x ls hI
      have hl := hI
      have hl : lv_has ls 5 [(1, .int (nI 13)), (0, .ref h0)] := hl
      refine lv_iload_n hx hb dMD_findHeights_23 rfl (lv_at hl 0 rfl) ?_
      refine lv_bipush (v := 13) hx hb dMD_findHeights_24 (by decide) ?_
      refine lv_icmp_ge (tgt := 160) hx hb dMD_findHeights_26 rfl (fun _ => ?_) (fun h => absurd (by decide) h)
      subst hQ
      exact zw_vret (D := (dC, dI)) (cl := vwCl) (A := A) () hx hb hr hlocks (trivial) (hP.sub [] rfl) (hK.sub [] rfl) (hD.sub [] (by decide) rfl) hS dMD_findHeights_160
    · intro i hi ih
      intro x ls hI
      have hl := hI
      have hl : lv_has ls 5 [(1, .int (nI i)), (0, .ref h0)] := hl
      refine lv_iload_n hx hb dMD_findHeights_23 rfl (lv_at hl 0 rfl) ?_
      refine lv_bipush (v := 13) hx hb dMD_findHeights_24 (by decide) ?_
      refine lv_icmp_ge (tgt := 160) hx hb dMD_findHeights_26 rfl (fun h => absurd h (z_ltN hi (by decide) rfl)) (fun _ => ?_)
      refine lv_iconst (v := 0) hx hb dMD_findHeights_29 (by decide) ?_
      refine lv_istore_n hx hb dMD_findHeights_30 rfl hl (Nat.le_of_ble_eq_true rfl) rfl (fun ls hl => ?_)
      have hl : lv_has ls 5 [(2, .int 0), (1, .int (nI i)), (0, .ref h0)] := hl
      refine lv_iload_n hx hb dMD_findHeights_31 rfl (lv_at hl 0 rfl) ?_
      refine lv_aload_n hx hb dMD_findHeights_32 rfl (lv_at hl 2 rfl) ?_
      refine va_get (D := (dC, dI)) (ci := 6) (v := .int 0) (C := RMD) (T := TMD) (N := 26) hx hb hz in_MD hown hK hP 0 rfl rfl 3 (by decide) (hz _ wd_587) (fun _ h9 => h9) rfl dMD_findHeights_33 ?_
      refine lv_icmp_ge (tgt := 154) hx hb dMD_findHeights_36 rfl (fun _ => ?_) (fun h => absurd (by decide) h)
      refine lv_iinc (k := 1) (v := nI (i + 1)) hx hb dMD_findHeights_154 hl rfl (by rw [show Int32.ofInt 1 = 1 from by decide]; exact nI_1 i) (Nat.le_of_ble_eq_true rfl) rfl (fun ls hl => ?_)
      have hl : lv_has ls 5 [(1, .int (nI (i + 1))), (2, .int 0), (0, .ref h0)] := hl
      refine lv_goto (tgt := 23) hx hb dMD_findHeights_157 rfl ?_
      exact ih () ls (lv_sub hl [0, 2] rfl)
  · intro i hi ih
    intro x ls H locs hI
    obtain ⟨gh, rfl⟩ : ∃ z, z = x := ⟨_, rfl⟩
    obtain ⟨hl, hP, hD, hS⟩ := hI
    have hP : va_P (dC, dI) vwCl [(h0, .inr (6, [.int 1, .ref b0, .ref b1, .int 0, .ref b2, .ref b3, .ref b4, .ref b5, .ref b6, .ref b7, .ref b8, .ref b9, .ref b10, .ref b11, .int (-1), .int 0, .int 0, .int 0, .int 0, .int 0, .ref b12, .ref b13, .ref b14, .ref b15, .ref b16, .ref b17])), (b15, .inl (kb15, 12, .inl gh))] H := hP
    have hD : va_D A [(h0, .inr (6, [.int 1, .ref b0, .ref b1, .int 0, .ref b2, .ref b3, .ref b4, .ref b5, .ref b6, .ref b7, .ref b8, .ref b9, .ref b10, .ref b11, .int (-1), .int 0, .int 0, .int 0, .int 0, .int 0, .ref b12, .ref b13, .ref b14, .ref b15, .ref b16, .ref b17])), (b15, .inl (kb15, 12, .inl gh))] := hD
    have hl : lv_has ls 5 [(1, .int (nI i)), (0, .ref h0)] := hl
    refine lv_iload_n hx hb dMD_findHeights_2 rfl (lv_at hl 0 rfl) ?_
    refine lv_bipush (v := 12) hx hb dMD_findHeights_3 (by decide) ?_
    refine lv_icmp_ge (tgt := 21) hx hb dMD_findHeights_5 rfl (fun h => absurd h (z_ltN hi (by decide) rfl)) (fun _ => ?_)
    refine lv_aload_n hx hb dMD_findHeights_8 rfl (lv_at hl 1 rfl) ?_
    refine va_get (D := (dC, dI)) (ci := 6) (v := .ref b15) (C := RMD) (T := TMD) (N := 26) hx hb hz in_MD hown hK hP 0 rfl rfl 23 (by decide) (hz _ wd_607) (fun _ h9 => h9) rfl dMD_findHeights_9 ?_
    refine lv_iload_n hx hb dMD_findHeights_12 rfl (lv_at hl 0 rfl) ?_
    refine lv_iconst (v := 0) hx hb dMD_findHeights_13 (by decide) ?_
    refine va_iast hx hb hK hP hD hS 1 0 rfl rfl (vp_in_nI (by omega) (by decide)) dMD_findHeights_14 (fun H locs hP hD hS => ?_)
    have hP : va_P (dC, dI) vwCl [(h0, .inr (6, [.int 1, .ref b0, .ref b1, .int 0, .ref b2, .ref b3, .ref b4, .ref b5, .ref b6, .ref b7, .ref b8, .ref b9, .ref b10, .ref b11, .int (-1), .int 0, .int 0, .int 0, .int 0, .int 0, .ref b12, .ref b13, .ref b14, .ref b15, .ref b16, .ref b17])), (b15, .inl (kb15, 12, .inl (upd gh (nI i).toNatClampNeg 0)))] H := hP
    have hD : va_D A [(h0, .inr (6, [.int 1, .ref b0, .ref b1, .int 0, .ref b2, .ref b3, .ref b4, .ref b5, .ref b6, .ref b7, .ref b8, .ref b9, .ref b10, .ref b11, .int (-1), .int 0, .int 0, .int 0, .int 0, .int 0, .ref b12, .ref b13, .ref b14, .ref b15, .ref b16, .ref b17])), (b15, .inl (kb15, 12, .inl (upd gh (nI i).toNatClampNeg 0)))] := hD
    refine lv_iinc (k := 0) (v := nI (i + 1)) hx hb dMD_findHeights_15 hl rfl (by rw [show Int32.ofInt 1 = 1 from by decide]; exact nI_1 i) (Nat.le_of_ble_eq_true rfl) rfl (fun ls hl => ?_)
    have hl : lv_has ls 5 [(1, .int (nI (i + 1))), (0, .ref h0)] := hl
    refine lv_goto (tgt := 2) hx hb dMD_findHeights_18 rfl ?_
    exact ih (upd gh (nI i).toNatClampNeg 0) ls H locs ⟨lv_sub hl [0, 1] rfl, hP, hD, hS⟩

set_option maxHeartbeats 4000000 in
set_option maxRecDepth 100000 in
theorem c_MD_size (l : Launch) (dC : Nat → ClassId) (dI : Nat → Nat → Nat) (h0 : Nat) (b0 : Nat) (b1 : Nat) (b2 : Nat) (b3 : Nat) (b4 : Nat) (b5 : Nat) (b6 : Nat) (b7 : Nat) (b8 : Nat) (b9 : Nat) (b10 : Nat) (b11 : Nat) (b12 : Nat) (b13 : Nat) (b14 : Nat) (b15 : Nat) (b16 : Nat) (b17 : Nat) (kb0 : ClassId) (kb1 : ClassId) (kb12 : ClassId) (kb13 : ClassId) (kb14 : ClassId) (kb17 : ClassId) (kb15 : ClassId) (fb12 : Nat → Int32) (fb13 : Nat → Int32) (fb14 : Nat → Int32) (fb17 : Nat → Int32) (fb15 : Nat → Int32) (f : Int32) : zw_Mi (S := Unit) l yMD_size wMD_size ({ frames := 3, cells := 0, slots := 0, locals := 67 }) [.ref h0, .int f] (dC, dI) vwCl [(h0, .inr (6, [.int 1, .ref b0, .ref b1, .int 0, .ref b2, .ref b3, .ref b4, .ref b5, .ref b6, .ref b7, .ref b8, .ref b9, .ref b10, .ref b11, .int (-1), .int 0, .int 0, .int 0, .int 0, .int 0, .ref b12, .ref b13, .ref b14, .ref b15, .ref b16, .ref b17])), (b0, .inl (kb0, 8, .inl (fun _ => 0))), (b1, .inl (kb1, 8, .inl (fun _ => 0))), (b12, .inl (kb12, 12, .inl fb12)), (b13, .inl (kb13, 12, .inl fb13)), (b14, .inl (kb14, 12, .inl fb14)), (b17, .inl (kb17, 12, .inl fb17)), (b15, .inl (kb15, 12, .inl fb15))] [(kb0, .int), (kb1, .int), (kb12, .int), (kb13, .int), (kb14, .int), (kb17, .int), (kb15, .int)] (fun _ _ => True) (fun r (_ : Unit) => r = 0) (fun (_ : Unit) => []) (fun (_ : Unit) => []) 0 0 := by
  refine zw_headi (cc := cMD_size) (maxL := 3) (ret := (some .int)) (by decide +kernel) rfl (Nat.le_of_ble_eq_true rfl) ?_
  intro p e s m below meth c ls A F hA hP hK hD hS hX hl
  obtain ⟨hx, hb, hml, hr, hlocks, hown, hts⟩ := F
  have hown : s.vm.findClass "SpannedCellsModel" = some m.cls := hown
  have hz : ∀ w9 ∈ zT, w9.before [.ref h0, .int f].toArray s = true := fun w9 h => hts w9 (List.mem_cons_of_mem _ h)
  have hl : lv_has ls 3 [(0, .ref h0), (1, .int f)] := hl
  refine z_q (fun Q hQ => ?_)
  refine z_join (fun v1 : Int32 => v1 = 0) (fun v1 => W p l e ({ frames := 3, cells := 0, slots := 0, locals := 67 }) s m [.ref h0, .int f].toArray below meth c s.heap [] 0 0 Q (F0 m 15 ls (.int v1 :: []))) (fun v1 hv1 => ?_) (fun J15 => ?_)
  · subst hv1
    refine lv_istore_n hx hb dMD_size_15 rfl hl (Nat.le_of_ble_eq_true rfl) rfl (fun ls hl => ?_)
    have hl : lv_has ls 3 [(2, .int 0), (0, .ref h0), (1, .int f)] := hl
    refine lv_aload_n hx hb dMD_size_16 rfl (lv_at hl 1 rfl) ?_
    refine zw_callv (wr := [(b0, .inl (kb0, 8, .inl (fun _ => 0))), (b1, .inl (kb1, 8, .inl (fun _ => 0))), (b15, .inl (kb15, 12, .inl fb15))]) hK hP hD hS hA [0, 3, 4, 5, 6] [1, 2, 7] rfl rfl (by decide) (by decide) (va_runV (As := []) (rest := []) ⟨hx, hb, hml, hown, hz⟩ ((c_MD_findWidths l dC dI h0 b0 b1 b2 b3 b4 b5 b6 b7 b8 b9 b10 b11 b12 b13 b14 b15 b16 b17 kb12 kb13 kb14 kb17 fb12 fb13 fb14 fb17 ) s.heap.size) (cwV 0 hz (z_gV wd_743 wd_745 wd_19 wd_37 wd_746) rfl rfl rfl (by decide +kernel) ⟨Nat.le_of_ble_eq_true rfl, Nat.le_of_ble_eq_true rfl⟩) (zw_preV (q0 := 0) (q := (RMD, TMD, 26)) hK hP hD rfl rfl [0, 3, 4, 5, 6] (by decide) rfl [2, 3, 4, 5] rfl z_true (fun _ _ _ => trivial)) rfl rfl hl.1 rfl (lv_room (Nat.le_of_ble_eq_true rfl)) dMD_size_17 ⟨Nat.le_of_ble_eq_true rfl, Nat.le_of_ble_eq_true rfl⟩) (fun u H locs h_r1 hP hD hK hS => ?_)
    have hP : va_P (dC, dI) vwCl [(h0, .inr (6, [.int 1, .ref b0, .ref b1, .int 0, .ref b2, .ref b3, .ref b4, .ref b5, .ref b6, .ref b7, .ref b8, .ref b9, .ref b10, .ref b11, .int (-1), .int 0, .int 0, .int 0, .int 0, .int 0, .ref b12, .ref b13, .ref b14, .ref b15, .ref b16, .ref b17])), (b0, .inl (kb0, 8, .inl (fun _ => 0))), (b1, .inl (kb1, 8, .inl (fun _ => 0))), (b15, .inl (kb15, 12, .inl fb15))] H := hP.sub [3, 0, 1, 2] rfl
    have hD : va_D A [(h0, .inr (6, [.int 1, .ref b0, .ref b1, .int 0, .ref b2, .ref b3, .ref b4, .ref b5, .ref b6, .ref b7, .ref b8, .ref b9, .ref b10, .ref b11, .int (-1), .int 0, .int 0, .int 0, .int 0, .int 0, .ref b12, .ref b13, .ref b14, .ref b15, .ref b16, .ref b17])), (b0, .inl (kb0, 8, .inl (fun _ => 0))), (b1, .inl (kb1, 8, .inl (fun _ => 0))), (b15, .inl (kb15, 12, .inl fb15))] := hD.sub [3, 0, 1, 2] (by decide) rfl
    have hK : va_K (dC, dI) vwCl [(kb0, .int), (kb1, .int), (kb12, .int), (kb13, .int), (kb14, .int), (kb17, .int), (kb15, .int)] s := hK
    refine lv_aload_n hx hb dMD_size_20 rfl (lv_at hl 1 rfl) ?_
    refine zw_callv (wr := [(b0, .inl (kb0, 8, .inl (fun _ => 0))), (b1, .inl (kb1, 8, .inl (fun _ => 0)))]) hK hP hD hS hA [0, 3] [1, 2] rfl rfl (by decide) (by decide) (va_runV (As := []) (rest := []) ⟨hx, hb, hml, hown, hz⟩ ((c_MD_findHeights l dC dI h0 b0 b1 b2 b3 b4 b5 b6 b7 b8 b9 b10 b11 b12 b13 b14 b15 b16 b17 kb15 fb15 ) H.size) (cwV 0 hz (z_gV wd_781 wd_783 wd_26 wd_37 wd_784) rfl rfl rfl (by decide +kernel) ⟨Nat.le_of_ble_eq_true rfl, Nat.le_of_ble_eq_true rfl⟩) (zw_preV (q0 := 0) (q := (RMD, TMD, 26)) hK hP hD rfl rfl [0, 3] (by decide) rfl [6] rfl z_true (fun _ _ _ => trivial)) rfl rfl hl.1 rfl (lv_room (Nat.le_of_ble_eq_true rfl)) dMD_size_21 ⟨Nat.le_of_ble_eq_true rfl, Nat.le_of_ble_eq_true rfl⟩) (fun u H locs h_r2 hP hD hK hS => ?_)
    have hP : va_P (dC, dI) vwCl [(b0, .inl (kb0, 8, .inl (fun _ => 0))), (b1, .inl (kb1, 8, .inl (fun _ => 0)))] H := hP.sub [0, 1] rfl
    have hD : va_D A [(b0, .inl (kb0, 8, .inl (fun _ => 0))), (b1, .inl (kb1, 8, .inl (fun _ => 0)))] := hD.sub [0, 1] (by decide) rfl
    have hK : va_K (dC, dI) vwCl [(kb0, .int), (kb1, .int), (kb12, .int), (kb13, .int), (kb14, .int), (kb17, .int), (kb15, .int)] s := hK
    refine lv_iload_n hx hb dMD_size_24 rfl (lv_at hl 0 rfl) ?_
    refine lv_if_ne (tgt := 32) hx hb dMD_size_25 rfl (fun h => absurd (by decide) h) (fun _ => ?_)
    refine lv_iconst (v := 0) hx hb dMD_size_28 (by decide) ?_
    refine lv_goto (tgt := 66) hx hb dMD_size_29 rfl ?_
    subst hQ
    exact zw_iret (D := (dC, dI)) (cl := vwCl) (A := A) () hx hb hr hlocks (rfl) (hP.sub [] rfl) (hK.sub [] rfl) (hD.sub [] (by decide) rfl) hS dMD_size_66
  · refine lv_iload_n hx hb dMD_size_0 rfl (lv_at hl 1 rfl) ?_
    refine lv_if_eq (tgt := 11) hx hb dMD_size_1 rfl (fun h3 => ?_) (fun h3 => ?_)
    · refine lv_aload_n hx hb dMD_size_11 rfl (lv_at hl 0 rfl) ?_
      refine vp_callSi (W.runV (As := []) (rest := []) ⟨hx, hb, hml, hown, hz⟩ (c_MD_columns l dC dI h0 b0 b1 b2 b3 b4 b5 b6 b7 b8 b9 b10 b11 b12 b13 b14 b15 b16 b17 ) (cwV 0 hz (z_gV wd_732 wd_701 wd_702 wd_37 wd_703) rfl rfl rfl (by decide +kernel) ⟨Nat.le_of_ble_eq_true rfl, Nat.le_of_ble_eq_true rfl⟩) (zp_preV (q0 := 0) (q := (RMD, TMD, 26)) hK hP rfl rfl [0] rfl [] rfl z_true (fun _ _ _ => trivial)) rfl rfl hl.1 rfl (lv_room (Nat.le_of_ble_eq_true rfl)) dMD_size_12 ⟨Nat.le_of_ble_eq_true rfl, Nat.le_of_ble_eq_true rfl⟩) (fun r4 h_r4 => ?_)
      have h_r4 : r4 = 0 := h_r4
      subst h_r4
      exact J15 _ (rfl)
    · refine lv_aload_n hx hb dMD_size_4 rfl (lv_at hl 0 rfl) ?_
      refine vp_callSi (W.runV (As := []) (rest := []) ⟨hx, hb, hml, hown, hz⟩ (c_MD_rows l dC dI h0 b0 b1 b2 b3 b4 b5 b6 b7 b8 b9 b10 b11 b12 b13 b14 b15 b16 b17 kb0 kb1 ) (cwV 0 hz (z_gV wd_733 wd_705 wd_706 wd_37 wd_707) rfl rfl rfl (by decide +kernel) ⟨Nat.le_of_ble_eq_true rfl, Nat.le_of_ble_eq_true rfl⟩) (zp_preV (q0 := 0) (q := (RMD, TMD, 26)) hK hP rfl rfl [0, 1, 2] rfl [0, 1] rfl z_true (fun _ _ _ => trivial)) rfl rfl hl.1 rfl (lv_room (Nat.le_of_ble_eq_true rfl)) dMD_size_5 ⟨Nat.le_of_ble_eq_true rfl, Nat.le_of_ble_eq_true rfl⟩) (fun r5 h_r5 => ?_)
      have h_r5 : r5 = 0 := h_r5
      subst h_r5
      refine lv_goto (tgt := 15) hx hb dMD_size_8 rfl ?_
      exact J15 _ (rfl)
