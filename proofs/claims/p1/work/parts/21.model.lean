set_option maxHeartbeats 4000000 in
set_option maxRecDepth 100000 in
theorem c_MD_endOf (l : Launch) (dC : Nat → ClassId) (dI : Nat → Nat → Nat) (h0 : Nat) (b0 : Nat) (b1 : Nat) (b2 : Nat) (b3 : Nat) (b4 : Nat) (b5 : Nat) (b6 : Nat) (b7 : Nat) (b8 : Nat) (b9 : Nat) (b10 : Nat) (b11 : Nat) (b12 : Nat) (b13 : Nat) (b14 : Nat) (b15 : Nat) (b16 : Nat) (b17 : Nat) (kb0 : ClassId) (kb1 : ClassId) : zp_M l yMD_endOf wMD_endOf ({ frames := 0, cells := 0, slots := 0, locals := 0 }) [.ref h0, .int 0] (dC, dI) vwCl [(h0, .inr (6, [.int 1, .ref b0, .ref b1, .int 0, .ref b2, .ref b3, .ref b4, .ref b5, .ref b6, .ref b7, .ref b8, .ref b9, .ref b10, .ref b11, .int (-1), .int 0, .int 0, .int 0, .int 0, .int 0, .ref b12, .ref b13, .ref b14, .ref b15, .ref b16, .ref b17])), (b0, .inl (kb0, 8, .inl (fun _ => 0))), (b1, .inl (kb1, 8, .inl (fun _ => 0)))] [(kb0, .int), (kb1, .int)] (fun _ => True) (fun r => r = 0) := by
  refine zp_head (cc := cMD_endOf) (maxL := 5) (ret := (some .int)) (by decide +kernel) rfl (Nat.le_of_ble_eq_true rfl) ?_
  intro p e s m below meth c ls F hP hK hX hl
  obtain ⟨hx, hb, hml, hr, hlocks, hown, hts⟩ := F
  have hown : s.vm.findClass "SpannedCellsModel" = some m.cls := hown
  have hz : ∀ w9 ∈ zT, w9.before [.ref h0, .int 0].toArray s = true := fun w9 h => hts w9 (List.mem_cons_of_mem _ h)
  have hl : lv_has ls 5 [(0, .ref h0), (1, .int 0)] := hl
  refine z_q (fun Q hQ => ?_)
  refine lv_aload_n hx hb dMD_endOf_0 rfl (lv_at hl 0 rfl) ?_
  refine va_get (D := (dC, dI)) (ci := 6) (v := .ref b0) (C := RMD) (T := TMD) (N := 26) hx hb hz in_MD hown hK hP 0 rfl rfl 1 (by decide) (hz _ wd_585) (fun _ h9 => h9) rfl dMD_endOf_1 ?_
  refine lv_iload_n hx hb dMD_endOf_4 rfl (lv_at hl 1 rfl) ?_
  refine va_iald hx hb hK hP 1 0 rfl rfl (by unfold vp_in; decide) dMD_endOf_5 ?_
  refine lv_topi (fun x1 e2 => ?_)
  have e2 : x1 = 0 := e2.trans (rfl)
  subst e2
  refine lv_aload_n hx hb dMD_endOf_6 rfl (lv_at hl 0 rfl) ?_
  refine va_get (D := (dC, dI)) (ci := 6) (v := .ref b1) (C := RMD) (T := TMD) (N := 26) hx hb hz in_MD hown hK hP 0 rfl rfl 2 (by decide) (hz _ wd_586) (fun _ h9 => h9) rfl dMD_endOf_7 ?_
  refine lv_iload_n hx hb dMD_endOf_10 rfl (lv_at hl 1 rfl) ?_
  refine va_iald hx hb hK hP 2 1 rfl rfl (by unfold vp_in; decide) dMD_endOf_11 ?_
  refine lv_topi (fun x3 e4 => ?_)
  have e4 : x3 = 0 := e4.trans (rfl)
  subst e4
  refine lv_iadd hx hb dMD_endOf_12 ?_
  refine lv_topi (fun x5 e6 => ?_)
  have e6 : x5 = 0 := e6.trans (by decide)
  subst e6
  refine lv_istore_n hx hb dMD_endOf_13 rfl hl (Nat.le_of_ble_eq_true rfl) rfl (fun ls hl => ?_)
  have hl : lv_has ls 5 [(2, .int 0), (0, .ref h0), (1, .int 0)] := hl
  refine lv_iconst (v := 0) hx hb dMD_endOf_14 (by decide) ?_
  refine lv_istore_n hx hb dMD_endOf_15 rfl hl (Nat.le_of_ble_eq_true rfl) rfl (fun ls hl => ?_)
  have hl : lv_has ls 5 [(3, .int 0), (2, .int 0), (0, .ref h0), (1, .int 0)] := hl
  refine lv_iload_n hx hb dMD_endOf_16 rfl (lv_at hl 0 rfl) ?_
  refine lv_aload_n hx hb dMD_endOf_17 rfl (lv_at hl 2 rfl) ?_
  refine va_get (D := (dC, dI)) (ci := 6) (v := .int 0) (C := RMD) (T := TMD) (N := 26) hx hb hz in_MD hown hK hP 0 rfl rfl 3 (by decide) (hz _ wd_587) (fun _ h9 => h9) rfl dMD_endOf_18 ?_
  refine lv_icmp_ge (tgt := 81) hx hb dMD_endOf_21 rfl (fun _ => ?_) (fun h => absurd (by decide) h)
  refine lv_iload_n hx hb dMD_endOf_81 rfl (lv_at hl 1 rfl) ?_
  subst hQ
  exact zp_iret hx hb hr hlocks (rfl) dMD_endOf_82

set_option maxHeartbeats 4000000 in
set_option maxRecDepth 100000 in
theorem c_MD_rows (l : Launch) (dC : Nat → ClassId) (dI : Nat → Nat → Nat) (h0 : Nat) (b0 : Nat) (b1 : Nat) (b2 : Nat) (b3 : Nat) (b4 : Nat) (b5 : Nat) (b6 : Nat) (b7 : Nat) (b8 : Nat) (b9 : Nat) (b10 : Nat) (b11 : Nat) (b12 : Nat) (b13 : Nat) (b14 : Nat) (b15 : Nat) (b16 : Nat) (b17 : Nat) (kb0 : ClassId) (kb1 : ClassId) : zp_M l yMD_rows wMD_rows ({ frames := 1, cells := 0, slots := 0, locals := 24 }) [.ref h0] (dC, dI) vwCl [(h0, .inr (6, [.int 1, .ref b0, .ref b1, .int 0, .ref b2, .ref b3, .ref b4, .ref b5, .ref b6, .ref b7, .ref b8, .ref b9, .ref b10, .ref b11, .int (-1), .int 0, .int 0, .int 0, .int 0, .int 0, .ref b12, .ref b13, .ref b14, .ref b15, .ref b16, .ref b17])), (b0, .inl (kb0, 8, .inl (fun _ => 0))), (b1, .inl (kb1, 8, .inl (fun _ => 0)))] [(kb0, .int), (kb1, .int)] (fun _ => True) (fun r => r = 0) := by
  refine zp_head (cc := cMD_rows) (maxL := 1) (ret := (some .int)) (by decide +kernel) rfl (Nat.le_of_ble_eq_true rfl) ?_
  intro p e s m below meth c ls F hP hK hX hl
  obtain ⟨hx, hb, hml, hr, hlocks, hown, hts⟩ := F
  have hown : s.vm.findClass "SpannedCellsModel" = some m.cls := hown
  have hz : ∀ w9 ∈ zT, w9.before [.ref h0].toArray s = true := fun w9 h => hts w9 (List.mem_cons_of_mem _ h)
  have hl : lv_has ls 1 [(0, .ref h0)] := hl
  refine z_q (fun Q hQ => ?_)
  refine lv_aload_n hx hb dMD_rows_0 rfl (lv_at hl 0 rfl) ?_
  refine lv_aload_n hx hb dMD_rows_1 rfl (lv_at hl 0 rfl) ?_
  refine va_get (D := (dC, dI)) (ci := 6) (v := .int 1) (C := RMD) (T := TMD) (N := 26) hx hb hz in_MD hown hK hP 0 rfl rfl 0 (by decide) (hz _ wd_584) (fun _ h9 => h9) rfl dMD_rows_2 ?_
  refine lv_iconst (v := 1) hx hb dMD_rows_5 (by decide) ?_
  refine lv_isub hx hb dMD_rows_6 ?_
  refine lv_topi (fun x1 e2 => ?_)
  have e2 : x1 = 0 := e2.trans (by decide)
  subst e2
  refine vp_callSi (W.runV (As := [.int 0]) (rest := []) ⟨hx, hb, hml, hown, hz⟩ (c_MD_endOf l dC dI h0 b0 b1 b2 b3 b4 b5 b6 b7 b8 b9 b10 b11 b12 b13 b14 b15 b16 b17 kb0 kb1 ) (cwV 1 hz (z_gV wd_668 wd_670 wd_13 wd_37 wd_671) rfl rfl rfl (by decide +kernel) ⟨Nat.le_of_ble_eq_true rfl, Nat.le_of_ble_eq_true rfl⟩) (zp_preV (q0 := 0) (q := (RMD, TMD, 26)) hK hP rfl rfl [0, 1, 2] rfl [0, 1] rfl z_true (fun _ _ _ => trivial)) rfl rfl hl.1 rfl (lv_room (Nat.le_of_ble_eq_true rfl)) dMD_rows_7 ⟨Nat.le_of_ble_eq_true rfl, Nat.le_of_ble_eq_true rfl⟩) (fun r3 h_r3 => ?_)
  have h_r3 : r3 = 0 := h_r3
  subst h_r3
  subst hQ
  exact zp_iret hx hb hr hlocks (rfl) dMD_rows_10

set_option maxHeartbeats 4000000 in
set_option maxRecDepth 100000 in
theorem c_MD_columns (l : Launch) (dC : Nat → ClassId) (dI : Nat → Nat → Nat) (h0 : Nat) (b0 : Nat) (b1 : Nat) (b2 : Nat) (b3 : Nat) (b4 : Nat) (b5 : Nat) (b6 : Nat) (b7 : Nat) (b8 : Nat) (b9 : Nat) (b10 : Nat) (b11 : Nat) (b12 : Nat) (b13 : Nat) (b14 : Nat) (b15 : Nat) (b16 : Nat) (b17 : Nat) : zp_M l yMD_columns wMD_columns ({ frames := 0, cells := 0, slots := 0, locals := 0 }) [.ref h0] (dC, dI) vwCl [(h0, .inr (6, [.int 1, .ref b0, .ref b1, .int 0, .ref b2, .ref b3, .ref b4, .ref b5, .ref b6, .ref b7, .ref b8, .ref b9, .ref b10, .ref b11, .int (-1), .int 0, .int 0, .int 0, .int 0, .int 0, .ref b12, .ref b13, .ref b14, .ref b15, .ref b16, .ref b17]))] [] (fun _ => True) (fun r => r = 0) := by
  refine zp_head (cc := cMD_columns) (maxL := 3) (ret := (some .int)) (by decide +kernel) rfl (Nat.le_of_ble_eq_true rfl) ?_
  intro p e s m below meth c ls F hP hK hX hl
  obtain ⟨hx, hb, hml, hr, hlocks, hown, hts⟩ := F
  have hown : s.vm.findClass "SpannedCellsModel" = some m.cls := hown
  have hz : ∀ w9 ∈ zT, w9.before [.ref h0].toArray s = true := fun w9 h => hts w9 (List.mem_cons_of_mem _ h)
  have hl : lv_has ls 3 [(0, .ref h0)] := hl
  refine z_q (fun Q hQ => ?_)
  refine lv_iconst (v := 0) hx hb dMD_columns_0 (by decide) ?_
  refine lv_istore_n hx hb dMD_columns_1 rfl hl (Nat.le_of_ble_eq_true rfl) rfl (fun ls hl => ?_)
  have hl : lv_has ls 3 [(1, .int 0), (0, .ref h0)] := hl
  refine lv_iconst (v := 0) hx hb dMD_columns_2 (by decide) ?_
  refine lv_istore_n hx hb dMD_columns_3 rfl hl (Nat.le_of_ble_eq_true rfl) rfl (fun ls hl => ?_)
  have hl : lv_has ls 3 [(2, .int 0), (1, .int 0), (0, .ref h0)] := hl
  refine lv_iload_n hx hb dMD_columns_4 rfl (lv_at hl 0 rfl) ?_
  refine lv_aload_n hx hb dMD_columns_5 rfl (lv_at hl 2 rfl) ?_
  refine va_get (D := (dC, dI)) (ci := 6) (v := .int 0) (C := RMD) (T := TMD) (N := 26) hx hb hz in_MD hown hK hP 0 rfl rfl 3 (by decide) (hz _ wd_587) (fun _ h9 => h9) rfl dMD_columns_6 ?_
  refine lv_icmp_ge (tgt := 53) hx hb dMD_columns_9 rfl (fun _ => ?_) (fun h => absurd (by decide) h)
  refine lv_iload_n hx hb dMD_columns_53 rfl (lv_at hl 1 rfl) ?_
  subst hQ
  exact zp_iret hx hb hr hlocks (rfl) dMD_columns_54

set_option maxHeartbeats 4000000 in
set_option maxRecDepth 100000 in
theorem c_MD_isCell (l : Launch) (dC : Nat → ClassId) (dI : Nat → Nat → Nat) (h0 : Nat) (b0 : Nat) (b1 : Nat) (b2 : Nat) (b3 : Nat) (b4 : Nat) (b5 : Nat) (b6 : Nat) (b7 : Nat) (b8 : Nat) (b9 : Nat) (b10 : Nat) (b11 : Nat) (b12 : Nat) (b13 : Nat) (b14 : Nat) (b15 : Nat) (b16 : Nat) (b17 : Nat) (k : Int32) : zp_M l yMD_isCell wMD_isCell ({ frames := 0, cells := 0, slots := 0, locals := 0 }) [.ref h0, .int k] (dC, dI) vwCl [(h0, .inr (6, [.int 1, .ref b0, .ref b1, .int 0, .ref b2, .ref b3, .ref b4, .ref b5, .ref b6, .ref b7, .ref b8, .ref b9, .ref b10, .ref b11, .int (-1), .int 0, .int 0, .int 0, .int 0, .int 0, .ref b12, .ref b13, .ref b14, .ref b15, .ref b16, .ref b17]))] [] (fun _ => True) (fun r => r = 0) := by
  refine zp_head (cc := cMD_isCell) (maxL := 2) (ret := (some .boolean)) (by decide +kernel) rfl (Nat.le_of_ble_eq_true rfl) ?_
  intro p e s m below meth c ls F hP hK hX hl
  obtain ⟨hx, hb, hml, hr, hlocks, hown, hts⟩ := F
  have hown : s.vm.findClass "SpannedCellsModel" = some m.cls := hown
  have hz : ∀ w9 ∈ zT, w9.before [.ref h0, .int k].toArray s = true := fun w9 h => hts w9 (List.mem_cons_of_mem _ h)
  have hl : lv_has ls 2 [(0, .ref h0), (1, .int k)] := hl
  refine z_q (fun Q hQ => ?_)
  refine lv_iload_n hx hb dMD_isCell_0 rfl (lv_at hl 1 rfl) ?_
  refine lv_if_lt (tgt := 16) hx hb dMD_isCell_1 rfl (fun h1 => ?_) (fun h1 => ?_)
  · refine lv_iconst (v := 0) hx hb dMD_isCell_16 (by decide) ?_
    subst hQ
    exact zp_zret hx hb hr hlocks (Or.inl rfl) (rfl) dMD_isCell_17
  · refine lv_iload_n hx hb dMD_isCell_4 rfl (lv_at hl 1 rfl) ?_
    refine lv_aload_n hx hb dMD_isCell_5 rfl (lv_at hl 0 rfl) ?_
    refine va_get (D := (dC, dI)) (ci := 6) (v := .int 0) (C := RMD) (T := TMD) (N := 26) hx hb hz in_MD hown hK hP 0 rfl rfl 3 (by decide) (hz _ wd_587) (fun _ h9 => h9) rfl dMD_isCell_6 ?_
    refine lv_icmp_ge (tgt := 16) hx hb dMD_isCell_9 rfl (fun _ => ?_) (fun h => absurd (Int32.not_lt.mp h1) h)
    refine lv_iconst (v := 0) hx hb dMD_isCell_16 (by decide) ?_
    subst hQ
    exact zp_zret hx hb hr hlocks (Or.inl rfl) (rfl) dMD_isCell_17

set_option maxHeartbeats 4000000 in
set_option maxRecDepth 100000 in
theorem c_MD_howMany (l : Launch) (dC : Nat → ClassId) (dI : Nat → Nat → Nat) (h0 : Nat) (b0 : Nat) (b1 : Nat) (b2 : Nat) (b3 : Nat) (b4 : Nat) (b5 : Nat) (b6 : Nat) (b7 : Nat) (b8 : Nat) (b9 : Nat) (b10 : Nat) (b11 : Nat) (b12 : Nat) (b13 : Nat) (b14 : Nat) (b15 : Nat) (b16 : Nat) (b17 : Nat) (x : Int32) (y : Int32) : zp_M l yMD_howMany wMD_howMany ({ frames := 0, cells := 0, slots := 0, locals := 0 }) [.ref h0, .int x, .int y] (dC, dI) vwCl [(h0, .inr (6, [.int 1, .ref b0, .ref b1, .int 0, .ref b2, .ref b3, .ref b4, .ref b5, .ref b6, .ref b7, .ref b8, .ref b9, .ref b10, .ref b11, .int (-1), .int 0, .int 0, .int 0, .int 0, .int 0, .ref b12, .ref b13, .ref b14, .ref b15, .ref b16, .ref b17]))] [] (fun _ => True) (fun r => r = 0) := by
  refine zp_head (cc := cMD_howMany) (maxL := 5) (ret := (some .int)) (by decide +kernel) rfl (Nat.le_of_ble_eq_true rfl) ?_
  intro p e s m below meth c ls F hP hK hX hl
  obtain ⟨hx, hb, hml, hr, hlocks, hown, hts⟩ := F
  have hown : s.vm.findClass "SpannedCellsModel" = some m.cls := hown
  have hz : ∀ w9 ∈ zT, w9.before [.ref h0, .int x, .int y].toArray s = true := fun w9 h => hts w9 (List.mem_cons_of_mem _ h)
  have hl : lv_has ls 5 [(0, .ref h0), (1, .int x), (2, .int y)] := hl
  refine z_q (fun Q hQ => ?_)
  refine lv_iconst (v := 0) hx hb dMD_howMany_0 (by decide) ?_
  refine lv_istore_n hx hb dMD_howMany_1 rfl hl (Nat.le_of_ble_eq_true rfl) rfl (fun ls hl => ?_)
  have hl : lv_has ls 5 [(3, .int 0), (0, .ref h0), (1, .int x), (2, .int y)] := hl
  refine lv_iconst (v := 0) hx hb dMD_howMany_2 (by decide) ?_
  refine lv_istore hx hb dMD_howMany_3 hl (Nat.le_of_ble_eq_true rfl) rfl (fun ls hl => ?_)
  have hl : lv_has ls 5 [(4, .int 0), (3, .int 0), (0, .ref h0), (1, .int x), (2, .int y)] := hl
  refine lv_iload hx hb dMD_howMany_5 (lv_at hl 0 rfl) ?_
  refine lv_aload_n hx hb dMD_howMany_7 rfl (lv_at hl 2 rfl) ?_
  refine va_get (D := (dC, dI)) (ci := 6) (v := .int 0) (C := RMD) (T := TMD) (N := 26) hx hb hz in_MD hown hK hP 0 rfl rfl 3 (by decide) (hz _ wd_587) (fun _ h9 => h9) rfl dMD_howMany_8 ?_
  refine lv_icmp_ge (tgt := 39) hx hb dMD_howMany_11 rfl (fun _ => ?_) (fun h => absurd (by decide) h)
  refine lv_iload_n hx hb dMD_howMany_39 rfl (lv_at hl 1 rfl) ?_
  subst hQ
  exact zp_iret hx hb hr hlocks (rfl) dMD_howMany_40

set_option maxHeartbeats 4000000 in
set_option maxRecDepth 100000 in
theorem c_MD_slot (l : Launch) (dC : Nat → ClassId) (dI : Nat → Nat → Nat) (h0 : Nat) (b0 : Nat) (b1 : Nat) (b2 : Nat) (b3 : Nat) (b4 : Nat) (b5 : Nat) (b6 : Nat) (b7 : Nat) (b8 : Nat) (b9 : Nat) (b10 : Nat) (b11 : Nat) (b12 : Nat) (b13 : Nat) (b14 : Nat) (b15 : Nat) (b16 : Nat) (b17 : Nat) (x : Int32) (y : Int32) : zp_M l yMD_slot wMD_slot ({ frames := 0, cells := 0, slots := 0, locals := 0 }) [.ref h0, .int x, .int y] (dC, dI) vwCl [(h0, .inr (6, [.int 1, .ref b0, .ref b1, .int 0, .ref b2, .ref b3, .ref b4, .ref b5, .ref b6, .ref b7, .ref b8, .ref b9, .ref b10, .ref b11, .int (-1), .int 0, .int 0, .int 0, .int 0, .int 0, .ref b12, .ref b13, .ref b14, .ref b15, .ref b16, .ref b17]))] [] (fun _ => True) (fun r => r = (-1)) := by
  refine zp_head (cc := cMD_slot) (maxL := 5) (ret := (some .int)) (by decide +kernel) rfl (Nat.le_of_ble_eq_true rfl) ?_
  intro p e s m below meth c ls F hP hK hX hl
  obtain ⟨hx, hb, hml, hr, hlocks, hown, hts⟩ := F
  have hown : s.vm.findClass "SpannedCellsModel" = some m.cls := hown
  have hz : ∀ w9 ∈ zT, w9.before [.ref h0, .int x, .int y].toArray s = true := fun w9 h => hts w9 (List.mem_cons_of_mem _ h)
  have hl : lv_has ls 5 [(0, .ref h0), (1, .int x), (2, .int y)] := hl
  refine z_q (fun Q hQ => ?_)
  refine lv_iconst (v := (-1)) hx hb dMD_slot_0 (by decide) ?_
  refine lv_istore_n hx hb dMD_slot_1 rfl hl (Nat.le_of_ble_eq_true rfl) rfl (fun ls hl => ?_)
  have hl : lv_has ls 5 [(3, .int (-1)), (0, .ref h0), (1, .int x), (2, .int y)] := hl
  refine lv_aload_n hx hb dMD_slot_2 rfl (lv_at hl 1 rfl) ?_
  refine va_get (D := (dC, dI)) (ci := 6) (v := .int 0) (C := RMD) (T := TMD) (N := 26) hx hb hz in_MD hown hK hP 0 rfl rfl 3 (by decide) (hz _ wd_587) (fun _ h9 => h9) rfl dMD_slot_3 ?_
  refine lv_iconst (v := 1) hx hb dMD_slot_6 (by decide) ?_
  refine lv_isub hx hb dMD_slot_7 ?_
  refine lv_topi (fun x1 e2 => ?_)
  have e2 : x1 = (-1) := e2.trans (by decide)
  subst e2
  refine lv_istore hx hb dMD_slot_8 hl (Nat.le_of_ble_eq_true rfl) rfl (fun ls hl => ?_)
  have hl : lv_has ls 5 [(4, .int (-1)), (3, .int (-1)), (0, .ref h0), (1, .int x), (2, .int y)] := hl
  refine lv_iload hx hb dMD_slot_10 (lv_at hl 0 rfl) ?_
  refine lv_if_lt (tgt := 39) hx hb dMD_slot_12 rfl (fun _ => ?_) (fun h => absurd (by decide) h)
  refine lv_iload_n hx hb dMD_slot_39 rfl (lv_at hl 1 rfl) ?_
  subst hQ
  exact zp_iret hx hb hr hlocks (rfl) dMD_slot_40

set_option maxHeartbeats 4000000 in
set_option maxRecDepth 100000 in
theorem c_MD_overlaps (l : Launch) (dC : Nat → ClassId) (dI : Nat → Nat → Nat) (h0 : Nat) (b0 : Nat) (b1 : Nat) (b2 : Nat) (b3 : Nat) (b4 : Nat) (b5 : Nat) (b6 : Nat) (b7 : Nat) (b8 : Nat) (b9 : Nat) (b10 : Nat) (b11 : Nat) (b12 : Nat) (b13 : Nat) (b14 : Nat) (b15 : Nat) (b16 : Nat) (b17 : Nat) : zp_M l yMD_overlaps wMD_overlaps ({ frames := 1, cells := 0, slots := 0, locals := 24 }) [.ref h0] (dC, dI) vwCl [(h0, .inr (6, [.int 1, .ref b0, .ref b1, .int 0, .ref b2, .ref b3, .ref b4, .ref b5, .ref b6, .ref b7, .ref b8, .ref b9, .ref b10, .ref b11, .int (-1), .int 0, .int 0, .int 0, .int 0, .int 0, .ref b12, .ref b13, .ref b14, .ref b15, .ref b16, .ref b17]))] [] (fun _ => True) (fun r => r = 0) := by
  refine zp_head (cc := cMD_overlaps) (maxL := 4) (ret := (some .int)) (by decide +kernel) rfl (Nat.le_of_ble_eq_true rfl) ?_
  intro p e s m below meth c ls F hP hK hX hl
  obtain ⟨hx, hb, hml, hr, hlocks, hown, hts⟩ := F
  have hown : s.vm.findClass "SpannedCellsModel" = some m.cls := hown
  have hz : ∀ w9 ∈ zT, w9.before [.ref h0].toArray s = true := fun w9 h => hts w9 (List.mem_cons_of_mem _ h)
  have hl : lv_has ls 4 [(0, .ref h0)] := hl
  refine z_q (fun Q hQ => ?_)
  refine lv_iconst (v := 0) hx hb dMD_overlaps_0 (by decide) ?_
  refine lv_istore_n hx hb dMD_overlaps_1 rfl hl (Nat.le_of_ble_eq_true rfl) rfl (fun ls hl => ?_)
  have hl : lv_has ls 4 [(1, .int 0), (0, .ref h0)] := hl
  refine lv_iconst (v := 0) hx hb dMD_overlaps_2 (by decide) ?_
  refine lv_istore_n hx hb dMD_overlaps_3 rfl hl (Nat.le_of_ble_eq_true rfl) rfl (fun ls hl => ?_)
  have hl : lv_has ls 4 [(2, .int 0), (1, .int 0), (0, .ref h0)] := hl
  refine zl_up (σ := Unit) 144 (fun i x ls => lv_has ls 4 [(2, .int (nI i)), (1, .int 0), (0, .ref h0)]) ?_ ?_ 0 (Nat.le_of_ble_eq_true rfl) () ls (lv_sub hl [0, 1, 2] rfl)
  · intro x ls hI
    have hl := hI
    have hl : lv_has ls 4 [(2, .int (nI 144)), (1, .int 0), (0, .ref h0)] := hl
    refine lv_iload_n hx hb dMD_overlaps_4 rfl (lv_at hl 0 rfl) ?_
    refine lv_sipush (v := 144) hx hb dMD_overlaps_5 (by decide) ?_
    refine lv_icmp_ge (tgt := 45) hx hb dMD_overlaps_8 rfl (fun _ => ?_) (fun h => absurd (by decide) h)
    refine lv_iload_n hx hb dMD_overlaps_45 rfl (lv_at hl 1 rfl) ?_
    subst hQ
    exact zp_iret hx hb hr hlocks (rfl) dMD_overlaps_46
  · intro i hi ih
    intro x ls hI
    have hl := hI
    have hl : lv_has ls 4 [(2, .int (nI i)), (1, .int 0), (0, .ref h0)] := hl
    refine lv_iload_n hx hb dMD_overlaps_4 rfl (lv_at hl 0 rfl) ?_
    refine lv_sipush (v := 144) hx hb dMD_overlaps_5 (by decide) ?_
    refine lv_icmp_ge (tgt := 45) hx hb dMD_overlaps_8 rfl (fun h => absurd h (z_ltN hi (by decide) rfl)) (fun _ => ?_)
    refine lv_aload_n hx hb dMD_overlaps_11 rfl (lv_at hl 2 rfl) ?_
    refine lv_iload_n hx hb dMD_overlaps_12 rfl (lv_at hl 0 rfl) ?_
    refine lv_bipush (v := 12) hx hb dMD_overlaps_13 (by decide) ?_
    refine lv_irem hx hb dMD_overlaps_15 (by decide) ?_
    refine lv_iload_n hx hb dMD_overlaps_16 rfl (lv_at hl 0 rfl) ?_
    refine lv_bipush (v := 12) hx hb dMD_overlaps_17 (by decide) ?_
    refine lv_idiv hx hb dMD_overlaps_19 (by decide) ?_
    refine vp_callSi (W.runV (As := [.int ((nI i) - (nI i) / 12 * 12), .int ((nI i) / 12)]) (rest := []) ⟨hx, hb, hml, hown, hz⟩ (c_MD_howMany l dC dI h0 b0 b1 b2 b3 b4 b5 b6 b7 b8 b9 b10 b11 b12 b13 b14 b15 b16 b17 ((nI i) - (nI i) / 12 * 12) ((nI i) / 12) ) (cwV 2 hz (z_gV wd_724 wd_726 wd_18 wd_37 wd_727) rfl rfl rfl (by decide +kernel) ⟨Nat.le_of_ble_eq_true rfl, Nat.le_of_ble_eq_true rfl⟩) (zp_preV (q0 := 0) (q := (RMD, TMD, 26)) hK hP rfl rfl [0] rfl [] rfl z_true (fun _ _ _ => trivial)) rfl rfl hl.1 rfl (lv_room (Nat.le_of_ble_eq_true rfl)) dMD_overlaps_20 ⟨Nat.le_of_ble_eq_true rfl, Nat.le_of_ble_eq_true rfl⟩) (fun r1 h_r1 => ?_)
    have h_r1 : r1 = 0 := h_r1
    subst h_r1
    refine lv_istore_n hx hb dMD_overlaps_23 rfl hl (Nat.le_of_ble_eq_true rfl) rfl (fun ls hl => ?_)
    have hl : lv_has ls 4 [(3, .int 0), (2, .int (nI i)), (1, .int 0), (0, .ref h0)] := hl
    refine lv_iload_n hx hb dMD_overlaps_24 rfl (lv_at hl 0 rfl) ?_
    refine lv_iconst (v := 1) hx hb dMD_overlaps_25 (by decide) ?_
    refine lv_icmp_le (tgt := 37) hx hb dMD_overlaps_26 rfl (fun _ => ?_) (fun h => absurd (by decide) h)
    refine lv_iload_n hx hb dMD_overlaps_37 rfl (lv_at hl 2 rfl) ?_
    refine lv_istore_n hx hb dMD_overlaps_38 rfl hl (Nat.le_of_ble_eq_true rfl) rfl (fun ls hl => ?_)
    have hl : lv_has ls 4 [(1, .int 0), (3, .int 0), (2, .int (nI i)), (0, .ref h0)] := hl
    refine lv_iinc (k := 2) (v := nI (i + 1)) hx hb dMD_overlaps_39 hl rfl (by rw [show Int32.ofInt 1 = 1 from by decide]; exact nI_1 i) (Nat.le_of_ble_eq_true rfl) rfl (fun ls hl => ?_)
    have hl : lv_has ls 4 [(2, .int (nI (i + 1))), (1, .int 0), (3, .int 0), (0, .ref h0)] := hl
    refine lv_goto (tgt := 4) hx hb dMD_overlaps_42 rfl ?_
    exact ih () ls (lv_sub hl [0, 1, 3] rfl)

set_option maxHeartbeats 4000000 in
set_option maxRecDepth 100000 in
theorem c_MD_empties (l : Launch) (dC : Nat → ClassId) (dI : Nat → Nat → Nat) (h0 : Nat) (b0 : Nat) (b1 : Nat) (b2 : Nat) (b3 : Nat) (b4 : Nat) (b5 : Nat) (b6 : Nat) (b7 : Nat) (b8 : Nat) (b9 : Nat) (b10 : Nat) (b11 : Nat) (b12 : Nat) (b13 : Nat) (b14 : Nat) (b15 : Nat) (b16 : Nat) (b17 : Nat) (kb0 : ClassId) (kb1 : ClassId) : zp_M l yMD_empties wMD_empties ({ frames := 2, cells := 0, slots := 0, locals := 44 }) [.ref h0] (dC, dI) vwCl [(h0, .inr (6, [.int 1, .ref b0, .ref b1, .int 0, .ref b2, .ref b3, .ref b4, .ref b5, .ref b6, .ref b7, .ref b8, .ref b9, .ref b10, .ref b11, .int (-1), .int 0, .int 0, .int 0, .int 0, .int 0, .ref b12, .ref b13, .ref b14, .ref b15, .ref b16, .ref b17])), (b0, .inl (kb0, 8, .inl (fun _ => 0))), (b1, .inl (kb1, 8, .inl (fun _ => 0)))] [(kb0, .int), (kb1, .int)] (fun _ => True) (fun r => r = 0) := by
  refine zp_head (cc := cMD_empties) (maxL := 6) (ret := (some .int)) (by decide +kernel) rfl (Nat.le_of_ble_eq_true rfl) ?_
  intro p e s m below meth c ls F hP hK hX hl
  obtain ⟨hx, hb, hml, hr, hlocks, hown, hts⟩ := F
  have hown : s.vm.findClass "SpannedCellsModel" = some m.cls := hown
  have hz : ∀ w9 ∈ zT, w9.before [.ref h0].toArray s = true := fun w9 h => hts w9 (List.mem_cons_of_mem _ h)
  have hl : lv_has ls 6 [(0, .ref h0)] := hl
  refine z_q (fun Q hQ => ?_)
  refine lv_iconst (v := 0) hx hb dMD_empties_0 (by decide) ?_
  refine lv_istore_n hx hb dMD_empties_1 rfl hl (Nat.le_of_ble_eq_true rfl) rfl (fun ls hl => ?_)
  have hl : lv_has ls 6 [(1, .int 0), (0, .ref h0)] := hl
  refine lv_iconst (v := 0) hx hb dMD_empties_2 (by decide) ?_
  refine lv_istore_n hx hb dMD_empties_3 rfl hl (Nat.le_of_ble_eq_true rfl) rfl (fun ls hl => ?_)
  have hl : lv_has ls 6 [(2, .int 0), (1, .int 0), (0, .ref h0)] := hl
  refine zl_up (σ := Unit) 12 (fun i x ls => lv_has ls 6 [(2, .int (nI i)), (1, .int 0), (0, .ref h0)]) ?_ ?_ 0 (Nat.le_of_ble_eq_true rfl) () ls (lv_sub hl [0, 1, 2] rfl)
  · intro x ls hI
    have hl := hI
    have hl : lv_has ls 6 [(2, .int (nI 12)), (1, .int 0), (0, .ref h0)] := hl
    refine lv_iload_n hx hb dMD_empties_4 rfl (lv_at hl 0 rfl) ?_
    refine lv_bipush (v := 12) hx hb dMD_empties_5 (by decide) ?_
    refine lv_icmp_ge (tgt := 131) hx hb dMD_empties_7 rfl (fun _ => ?_) (fun h => absurd (by decide) h)
    refine lv_iload_n hx hb dMD_empties_131 rfl (lv_at hl 1 rfl) ?_
    subst hQ
    exact zp_iret hx hb hr hlocks (rfl) dMD_empties_132
  · intro i hi ih
    intro x ls hI
    have hl := hI
    have hl : lv_has ls 6 [(2, .int (nI i)), (1, .int 0), (0, .ref h0)] := hl
    refine lv_iload_n hx hb dMD_empties_4 rfl (lv_at hl 0 rfl) ?_
    refine lv_bipush (v := 12) hx hb dMD_empties_5 (by decide) ?_
    refine lv_icmp_ge (tgt := 131) hx hb dMD_empties_7 rfl (fun h => absurd h (z_ltN hi (by decide) rfl)) (fun _ => ?_)
    refine lv_iload_n hx hb dMD_empties_10 rfl (lv_at hl 0 rfl) ?_
    refine lv_aload_n hx hb dMD_empties_11 rfl (lv_at hl 2 rfl) ?_
    refine vp_callSi (W.runV (As := []) (rest := [.int (nI i)]) ⟨hx, hb, hml, hown, hz⟩ (c_MD_columns l dC dI h0 b0 b1 b2 b3 b4 b5 b6 b7 b8 b9 b10 b11 b12 b13 b14 b15 b16 b17 ) (cwV 0 hz (z_gV wd_732 wd_701 wd_702 wd_37 wd_703) rfl rfl rfl (by decide +kernel) ⟨Nat.le_of_ble_eq_true rfl, Nat.le_of_ble_eq_true rfl⟩) (zp_preV (q0 := 0) (q := (RMD, TMD, 26)) hK hP rfl rfl [0] rfl [] rfl z_true (fun _ _ _ => trivial)) rfl rfl hl.1 rfl (lv_room (Nat.le_of_ble_eq_true rfl)) dMD_empties_12 ⟨Nat.le_of_ble_eq_true rfl, Nat.le_of_ble_eq_true rfl⟩) (fun r1 h_r1 => ?_)
    have h_r1 : r1 = 0 := h_r1
    subst h_r1
    refine lv_icmp_ge (tgt := 22) hx hb dMD_empties_15 rfl (fun _ => ?_) (fun h => absurd (nI_pos' (by omega)) h)
    refine lv_iconst (v := 0) hx hb dMD_empties_22 (by decide) ?_
    refine lv_istore_n hx hb dMD_empties_23 rfl hl (Nat.le_of_ble_eq_true rfl) rfl (fun ls hl => ?_)
    have hl : lv_has ls 6 [(3, .int 0), (2, .int (nI i)), (1, .int 0), (0, .ref h0)] := hl
    refine lv_iload_n hx hb dMD_empties_24 rfl (lv_at hl 1 rfl) ?_
    refine lv_aload_n hx hb dMD_empties_25 rfl (lv_at hl 3 rfl) ?_
    refine vp_callSi (W.runV (As := []) (rest := [.int (nI i)]) ⟨hx, hb, hml, hown, hz⟩ (c_MD_rows l dC dI h0 b0 b1 b2 b3 b4 b5 b6 b7 b8 b9 b10 b11 b12 b13 b14 b15 b16 b17 kb0 kb1 ) (cwV 0 hz (z_gV wd_733 wd_705 wd_706 wd_37 wd_707) rfl rfl rfl (by decide +kernel) ⟨Nat.le_of_ble_eq_true rfl, Nat.le_of_ble_eq_true rfl⟩) (zp_preV (q0 := 0) (q := (RMD, TMD, 26)) hK hP rfl rfl [0, 1, 2] rfl [0, 1] rfl z_true (fun _ _ _ => trivial)) rfl rfl hl.1 rfl (lv_room (Nat.le_of_ble_eq_true rfl)) dMD_empties_26 ⟨Nat.le_of_ble_eq_true rfl, Nat.le_of_ble_eq_true rfl⟩) (fun r2 h_r2 => ?_)
    have h_r2 : r2 = 0 := h_r2
    subst h_r2
    refine lv_icmp_ge (tgt := 36) hx hb dMD_empties_29 rfl (fun _ => ?_) (fun h => absurd (nI_pos' (by omega)) h)
    refine lv_iconst (v := 0) hx hb dMD_empties_36 (by decide) ?_
    refine lv_istore hx hb dMD_empties_37 hl (Nat.le_of_ble_eq_true rfl) rfl (fun ls hl => ?_)
    have hl : lv_has ls 6 [(4, .int 0), (3, .int 0), (2, .int (nI i)), (1, .int 0), (0, .ref h0)] := hl
    refine lv_iconst (v := 0) hx hb dMD_empties_39 (by decide) ?_
    refine lv_istore hx hb dMD_empties_40 hl (Nat.le_of_ble_eq_true rfl) rfl (fun ls hl => ?_)
    have hl : lv_has ls 6 [(5, .int 0), (4, .int 0), (3, .int 0), (2, .int (nI i)), (1, .int 0), (0, .ref h0)] := hl
    refine lv_iload hx hb dMD_empties_42 (lv_at hl 0 rfl) ?_
    refine lv_aload_n hx hb dMD_empties_44 rfl (lv_at hl 5 rfl) ?_
    refine va_get (D := (dC, dI)) (ci := 6) (v := .int 0) (C := RMD) (T := TMD) (N := 26) hx hb hz in_MD hown hK hP 0 rfl rfl 3 (by decide) (hz _ wd_587) (fun _ h9 => h9) rfl dMD_empties_45 ?_
    refine lv_icmp_ge (tgt := 101) hx hb dMD_empties_48 rfl (fun _ => ?_) (fun h => absurd (by decide) h)
    refine lv_iload_n hx hb dMD_empties_101 rfl (lv_at hl 4 rfl) ?_
    refine lv_iload_n hx hb dMD_empties_102 rfl (lv_at hl 2 rfl) ?_
    refine lv_if_eq (tgt := 110) hx hb dMD_empties_103 rfl (fun _ => ?_) (fun h => absurd (by decide) h)
    refine lv_iconst (v := 0) hx hb dMD_empties_110 (by decide) ?_
    refine lv_iadd hx hb dMD_empties_111 ?_
    refine lv_topi (fun x3 e4 => ?_)
    have e4 : x3 = 0 := e4.trans (by decide)
    subst e4
    refine lv_iload hx hb dMD_empties_112 (lv_at hl 1 rfl) ?_
    refine lv_if_eq (tgt := 122) hx hb dMD_empties_114 rfl (fun _ => ?_) (fun h => absurd (by decide) h)
    refine lv_iconst (v := 0) hx hb dMD_empties_122 (by decide) ?_
    refine lv_iadd hx hb dMD_empties_123 ?_
    refine lv_topi (fun x5 e6 => ?_)
    have e6 : x5 = 0 := e6.trans (by decide)
    subst e6
    refine lv_istore_n hx hb dMD_empties_124 rfl hl (Nat.le_of_ble_eq_true rfl) rfl (fun ls hl => ?_)
    have hl : lv_has ls 6 [(1, .int 0), (5, .int 0), (4, .int 0), (3, .int 0), (2, .int (nI i)), (0, .ref h0)] := hl
    refine lv_iinc (k := 4) (v := nI (i + 1)) hx hb dMD_empties_125 hl rfl (by rw [show Int32.ofInt 1 = 1 from by decide]; exact nI_1 i) (Nat.le_of_ble_eq_true rfl) rfl (fun ls hl => ?_)
    have hl : lv_has ls 6 [(2, .int (nI (i + 1))), (1, .int 0), (5, .int 0), (4, .int 0), (3, .int 0), (0, .ref h0)] := hl
    refine lv_goto (tgt := 4) hx hb dMD_empties_128 rfl ?_
    exact ih () ls (lv_sub hl [0, 1, 5] rfl)

set_option maxHeartbeats 4000000 in
set_option maxRecDepth 100000 in
theorem c_MD_span (l : Launch) (dC : Nat → ClassId) (dI : Nat → Nat → Nat) (h0 : Nat) (b0 : Nat) (b1 : Nat) (b2 : Nat) (b3 : Nat) (b4 : Nat) (b5 : Nat) (b6 : Nat) (b7 : Nat) (b8 : Nat) (b9 : Nat) (b10 : Nat) (b11 : Nat) (b12 : Nat) (b13 : Nat) (b14 : Nat) (b15 : Nat) (b16 : Nat) (b17 : Nat) (k : Int32) : zp_M l yMD_span wMD_span ({ frames := 1, cells := 0, slots := 0, locals := 21 }) [.ref h0, .int k] (dC, dI) vwCl [(h0, .inr (6, [.int 1, .ref b0, .ref b1, .int 0, .ref b2, .ref b3, .ref b4, .ref b5, .ref b6, .ref b7, .ref b8, .ref b9, .ref b10, .ref b11, .int (-1), .int 0, .int 0, .int 0, .int 0, .int 0, .ref b12, .ref b13, .ref b14, .ref b15, .ref b16, .ref b17]))] [] (fun _ => True) (fun r => r = (-1)) := by
  refine zp_head (cc := cMD_span) (maxL := 2) (ret := (some .int)) (by decide +kernel) rfl (Nat.le_of_ble_eq_true rfl) ?_
  intro p e s m below meth c ls F hP hK hX hl
  obtain ⟨hx, hb, hml, hr, hlocks, hown, hts⟩ := F
  have hown : s.vm.findClass "SpannedCellsModel" = some m.cls := hown
  have hz : ∀ w9 ∈ zT, w9.before [.ref h0, .int k].toArray s = true := fun w9 h => hts w9 (List.mem_cons_of_mem _ h)
  have hl : lv_has ls 2 [(0, .ref h0), (1, .int k)] := hl
  refine z_q (fun Q hQ => ?_)
  refine lv_aload_n hx hb dMD_span_0 rfl (lv_at hl 0 rfl) ?_
  refine lv_iload_n hx hb dMD_span_1 rfl (lv_at hl 1 rfl) ?_
  refine vp_callSi (W.runV (As := [.int k]) (rest := []) ⟨hx, hb, hml, hown, hz⟩ (c_MD_isCell l dC dI h0 b0 b1 b2 b3 b4 b5 b6 b7 b8 b9 b10 b11 b12 b13 b14 b15 b16 b17 k ) (cwV 1 hz (z_gV wd_688 wd_690 wd_15 wd_37 wd_691) rfl rfl rfl (by decide +kernel) ⟨Nat.le_of_ble_eq_true rfl, Nat.le_of_ble_eq_true rfl⟩) (zp_preV (q0 := 0) (q := (RMD, TMD, 26)) hK hP rfl rfl [0] rfl [] rfl z_true (fun _ _ _ => trivial)) rfl rfl hl.1 rfl (lv_room (Nat.le_of_ble_eq_true rfl)) dMD_span_2 ⟨Nat.le_of_ble_eq_true rfl, Nat.le_of_ble_eq_true rfl⟩) (fun r1 h_r1 => ?_)
  have h_r1 : r1 = 0 := h_r1
  subst h_r1
  refine lv_if_eq (tgt := 47) hx hb dMD_span_5 rfl (fun _ => ?_) (fun h => absurd (by decide) h)
  refine lv_iconst (v := (-1)) hx hb dMD_span_47 (by decide) ?_
  subst hQ
  exact zp_iret hx hb hr hlocks (rfl) dMD_span_48

set_option maxHeartbeats 4000000 in
set_option maxRecDepth 100000 in
theorem c_MD_border (l : Launch) (dC : Nat → ClassId) (dI : Nat → Nat → Nat) (h0 : Nat) (b0 : Nat) (b1 : Nat) (b2 : Nat) (b3 : Nat) (b4 : Nat) (b5 : Nat) (b6 : Nat) (b7 : Nat) (b8 : Nat) (b9 : Nat) (b10 : Nat) (b11 : Nat) (b12 : Nat) (b13 : Nat) (b14 : Nat) (b15 : Nat) (b16 : Nat) (b17 : Nat) (k : Int32) (t : Int32) (w : Int32) : zp_M l yMD_border wMD_border ({ frames := 1, cells := 0, slots := 0, locals := 21 }) [.ref h0, .int k, .int t, .int w] (dC, dI) vwCl [(h0, .inr (6, [.int 1, .ref b0, .ref b1, .int 0, .ref b2, .ref b3, .ref b4, .ref b5, .ref b6, .ref b7, .ref b8, .ref b9, .ref b10, .ref b11, .int (-1), .int 0, .int 0, .int 0, .int 0, .int 0, .ref b12, .ref b13, .ref b14, .ref b15, .ref b16, .ref b17]))] [] (fun _ => True) (fun r => r = 0) := by
  refine zp_head (cc := cMD_border) (maxL := 4) (ret := (some .boolean)) (by decide +kernel) rfl (Nat.le_of_ble_eq_true rfl) ?_
  intro p e s m below meth c ls F hP hK hX hl
  obtain ⟨hx, hb, hml, hr, hlocks, hown, hts⟩ := F
  have hown : s.vm.findClass "SpannedCellsModel" = some m.cls := hown
  have hz : ∀ w9 ∈ zT, w9.before [.ref h0, .int k, .int t, .int w].toArray s = true := fun w9 h => hts w9 (List.mem_cons_of_mem _ h)
  have hl : lv_has ls 4 [(0, .ref h0), (1, .int k), (2, .int t), (3, .int w)] := hl
  refine z_q (fun Q hQ => ?_)
  refine lv_aload_n hx hb dMD_border_0 rfl (lv_at hl 0 rfl) ?_
  refine lv_iload_n hx hb dMD_border_1 rfl (lv_at hl 1 rfl) ?_
  refine vp_callSi (W.runV (As := [.int k]) (rest := []) ⟨hx, hb, hml, hown, hz⟩ (c_MD_isCell l dC dI h0 b0 b1 b2 b3 b4 b5 b6 b7 b8 b9 b10 b11 b12 b13 b14 b15 b16 b17 k ) (cwV 1 hz (z_gV wd_688 wd_690 wd_15 wd_37 wd_691) rfl rfl rfl (by decide +kernel) ⟨Nat.le_of_ble_eq_true rfl, Nat.le_of_ble_eq_true rfl⟩) (zp_preV (q0 := 0) (q := (RMD, TMD, 26)) hK hP rfl rfl [0] rfl [] rfl z_true (fun _ _ _ => trivial)) rfl rfl hl.1 rfl (lv_room (Nat.le_of_ble_eq_true rfl)) dMD_border_2 ⟨Nat.le_of_ble_eq_true rfl, Nat.le_of_ble_eq_true rfl⟩) (fun r1 h_r1 => ?_)
  have h_r1 : r1 = 0 := h_r1
  subst h_r1
  refine lv_if_eq (tgt := 27) hx hb dMD_border_5 rfl (fun _ => ?_) (fun h => absurd (by decide) h)
  refine lv_iconst (v := 0) hx hb dMD_border_27 (by decide) ?_
  subst hQ
  exact zp_zret hx hb hr hlocks (Or.inl rfl) (rfl) dMD_border_28

set_option maxHeartbeats 4000000 in
set_option maxRecDepth 100000 in
theorem c_MD_cell (l : Launch) (dC : Nat → ClassId) (dI : Nat → Nat → Nat) (h0 : Nat) (b0 : Nat) (b1 : Nat) (b2 : Nat) (b3 : Nat) (b4 : Nat) (b5 : Nat) (b6 : Nat) (b7 : Nat) (b8 : Nat) (b9 : Nat) (b10 : Nat) (b11 : Nat) (b12 : Nat) (b13 : Nat) (b14 : Nat) (b15 : Nat) (b16 : Nat) (b17 : Nat) (a : Int32) (b : Int32) (c1 : Int32) (d : Int32) (e1 : Int32) : zp_M l yMD_cell wMD_cell ({ frames := 0, cells := 0, slots := 0, locals := 0 }) [.ref h0, .int a, .int b, .int c1, .int d, .int e1] (dC, dI) vwCl [(h0, .inr (6, [.int 1, .ref b0, .ref b1, .int 0, .ref b2, .ref b3, .ref b4, .ref b5, .ref b6, .ref b7, .ref b8, .ref b9, .ref b10, .ref b11, .int (-1), .int 0, .int 0, .int 0, .int 0, .int 0, .ref b12, .ref b13, .ref b14, .ref b15, .ref b16, .ref b17]))] [] (fun _ => True) (fun r => r = (-1)) := by
  refine zp_head (cc := cMD_cell) (maxL := 9) (ret := (some .int)) (by decide +kernel) rfl (Nat.le_of_ble_eq_true rfl) ?_
  intro p e s m below meth c ls F hP hK hX hl
  obtain ⟨hx, hb, hml, hr, hlocks, hown, hts⟩ := F
  have hown : s.vm.findClass "SpannedCellsModel" = some m.cls := hown
  have hz : ∀ w9 ∈ zT, w9.before [.ref h0, .int a, .int b, .int c1, .int d, .int e1].toArray s = true := fun w9 h => hts w9 (List.mem_cons_of_mem _ h)
  have hl : lv_has ls 9 [(0, .ref h0), (1, .int a), (2, .int b), (3, .int c1), (4, .int d), (5, .int e1)] := hl
  refine z_q (fun Q hQ => ?_)
  refine z_join (fun v1 : Int32 => True) (fun v1 => W p l e ({ frames := 0, cells := 0, slots := 0, locals := 0 }) s m [.ref h0, .int a, .int b, .int c1, .int d, .int e1].toArray below meth c s.heap [] 0 0 Q (F0 m 56 ls (.int v1 :: []))) (fun v1 hv1 => ?_) (fun J56 => ?_)
  · refine lv_istore hx hb dMD_cell_56 hl (Nat.le_of_ble_eq_true rfl) rfl (fun ls hl => ?_)
    have hl : lv_has ls 9 [(6, .int v1), (0, .ref h0), (1, .int a), (2, .int b), (3, .int c1), (4, .int d), (5, .int e1)] := hl
    refine lv_iload hx hb dMD_cell_58 (lv_at hl 0 rfl) ?_
    refine lv_if_eq (tgt := 85) hx hb dMD_cell_60 rfl (fun h1 => ?_) (fun h1 => ?_)
    · refine lv_iconst (v := (-1)) hx hb dMD_cell_85 (by decide) ?_
      subst hQ
      exact zp_iret hx hb hr hlocks (rfl) dMD_cell_86
    · refine lv_aload_n hx hb dMD_cell_63 rfl (lv_at hl 1 rfl) ?_
      refine va_get (D := (dC, dI)) (ci := 6) (v := .int (-1)) (C := RMD) (T := TMD) (N := 26) hx hb hz in_MD hown hK hP 0 rfl rfl 14 (by decide) (hz _ wd_598) (fun _ h9 => h9) rfl dMD_cell_64 ?_
      refine lv_aload_n hx hb dMD_cell_67 rfl (lv_at hl 1 rfl) ?_
      refine va_get (D := (dC, dI)) (ci := 6) (v := .int 1) (C := RMD) (T := TMD) (N := 26) hx hb hz in_MD hown hK hP 0 rfl rfl 0 (by decide) (hz _ wd_584) (fun _ h9 => h9) rfl dMD_cell_68 ?_
      refine lv_iconst (v := 1) hx hb dMD_cell_71 (by decide) ?_
      refine lv_isub hx hb dMD_cell_72 ?_
      refine lv_topi (fun x2 e3 => ?_)
      have e3 : x2 = 0 := e3.trans (by decide)
      subst e3
      refine lv_icmp_ne (tgt := 85) hx hb dMD_cell_73 rfl (fun _ => ?_) (fun h => absurd h (by decide))
      refine lv_iconst (v := (-1)) hx hb dMD_cell_85 (by decide) ?_
      subst hQ
      exact zp_iret hx hb hr hlocks (rfl) dMD_cell_86
  · refine lv_iload_n hx hb dMD_cell_0 rfl (lv_at hl 1 rfl) ?_
    refine lv_if_le (tgt := 55) hx hb dMD_cell_1 rfl (fun h4 => ?_) (fun h4 => ?_)
    · refine lv_iconst (v := 0) hx hb dMD_cell_55 (by decide) ?_
      exact J56 _ (trivial)
    · refine lv_iload_n hx hb dMD_cell_4 rfl (lv_at hl 1 rfl) ?_
      refine lv_bipush (v := 7) hx hb dMD_cell_5 (by decide) ?_
      refine lv_icmp_ge (tgt := 55) hx hb dMD_cell_7 rfl (fun h5 => ?_) (fun h5 => ?_)
      · refine lv_iconst (v := 0) hx hb dMD_cell_55 (by decide) ?_
        exact J56 _ (trivial)
      · refine lv_iload_n hx hb dMD_cell_10 rfl (lv_at hl 2 rfl) ?_
        refine lv_if_lt (tgt := 55) hx hb dMD_cell_11 rfl (fun h6 => ?_) (fun h6 => ?_)
        · refine lv_iconst (v := 0) hx hb dMD_cell_55 (by decide) ?_
          exact J56 _ (trivial)
        · refine lv_iload_n hx hb dMD_cell_14 rfl (lv_at hl 2 rfl) ?_
          refine lv_bipush (v := 7) hx hb dMD_cell_15 (by decide) ?_
          refine lv_icmp_ge (tgt := 55) hx hb dMD_cell_17 rfl (fun h7 => ?_) (fun h7 => ?_)
          · refine lv_iconst (v := 0) hx hb dMD_cell_55 (by decide) ?_
            exact J56 _ (trivial)
          · refine lv_iload_n hx hb dMD_cell_20 rfl (lv_at hl 3 rfl) ?_
            refine lv_if_lt (tgt := 55) hx hb dMD_cell_21 rfl (fun h8 => ?_) (fun h8 => ?_)
            · refine lv_iconst (v := 0) hx hb dMD_cell_55 (by decide) ?_
              exact J56 _ (trivial)
            · refine lv_iload_n hx hb dMD_cell_24 rfl (lv_at hl 3 rfl) ?_
              refine lv_iload hx hb dMD_cell_25 (lv_at hl 4 rfl) ?_
              refine lv_icmp_gt (tgt := 55) hx hb dMD_cell_27 rfl (fun h9 => ?_) (fun h9 => ?_)
              · refine lv_iconst (v := 0) hx hb dMD_cell_55 (by decide) ?_
                exact J56 _ (trivial)
              · refine lv_iload hx hb dMD_cell_30 (lv_at hl 4 rfl) ?_
                refine lv_sipush (v := 1000) hx hb dMD_cell_32 (by decide) ?_
                refine lv_icmp_gt (tgt := 55) hx hb dMD_cell_35 rfl (fun h10 => ?_) (fun h10 => ?_)
                · refine lv_iconst (v := 0) hx hb dMD_cell_55 (by decide) ?_
                  exact J56 _ (trivial)
                · refine lv_iload hx hb dMD_cell_38 (lv_at hl 5 rfl) ?_
                  refine lv_if_lt (tgt := 55) hx hb dMD_cell_40 rfl (fun h11 => ?_) (fun h11 => ?_)
                  · refine lv_iconst (v := 0) hx hb dMD_cell_55 (by decide) ?_
                    exact J56 _ (trivial)
                  · refine lv_iload hx hb dMD_cell_43 (lv_at hl 5 rfl) ?_
                    refine lv_sipush (v := 1000) hx hb dMD_cell_45 (by decide) ?_
                    refine lv_icmp_gt (tgt := 55) hx hb dMD_cell_48 rfl (fun h12 => ?_) (fun h12 => ?_)
                    · refine lv_iconst (v := 0) hx hb dMD_cell_55 (by decide) ?_
                      exact J56 _ (trivial)
                    · refine lv_iconst (v := 1) hx hb dMD_cell_51 (by decide) ?_
                      refine lv_goto (tgt := 56) hx hb dMD_cell_52 rfl ?_
                      exact J56 _ (trivial)

set_option maxHeartbeats 4000000 in
set_option maxRecDepth 100000 in
theorem c_MD_wide (l : Launch) (dC : Nat → ClassId) (dI : Nat → Nat → Nat) (h0 : Nat) (b0 : Nat) (b1 : Nat) (b2 : Nat) (b3 : Nat) (b4 : Nat) (b5 : Nat) (b6 : Nat) (b7 : Nat) (b8 : Nat) (b9 : Nat) (b10 : Nat) (b11 : Nat) (b12 : Nat) (b13 : Nat) (b14 : Nat) (b15 : Nat) (b16 : Nat) (b17 : Nat) (x : Int32) (w : Int32) : zp_M l yMD_wide wMD_wide ({ frames := 1, cells := 0, slots := 0, locals := 22 }) [.ref h0, .int x, .int w] (dC, dI) vwCl [(h0, .inr (6, [.int 1, .ref b0, .ref b1, .int 0, .ref b2, .ref b3, .ref b4, .ref b5, .ref b6, .ref b7, .ref b8, .ref b9, .ref b10, .ref b11, .int (-1), .int 0, .int 0, .int 0, .int 0, .int 0, .ref b12, .ref b13, .ref b14, .ref b15, .ref b16, .ref b17]))] [] (fun _ => True) (fun r => r = (-1)) := by
  refine zp_head (cc := cMD_wide) (maxL := 3) (ret := (some .int)) (by decide +kernel) rfl (Nat.le_of_ble_eq_true rfl) ?_
  intro p e s m below meth c ls F hP hK hX hl
  obtain ⟨hx, hb, hml, hr, hlocks, hown, hts⟩ := F
  have hown : s.vm.findClass "SpannedCellsModel" = some m.cls := hown
  have hz : ∀ w9 ∈ zT, w9.before [.ref h0, .int x, .int w].toArray s = true := fun w9 h => hts w9 (List.mem_cons_of_mem _ h)
  have hl : lv_has ls 3 [(0, .ref h0), (1, .int x), (2, .int w)] := hl
  refine z_q (fun Q hQ => ?_)
  refine lv_iload_n hx hb dMD_wide_0 rfl (lv_at hl 1 rfl) ?_
  refine lv_if_lt (tgt := 12) hx hb dMD_wide_1 rfl (fun h1 => ?_) (fun h1 => ?_)
  · refine lv_iconst (v := (-1)) hx hb dMD_wide_12 (by decide) ?_
    subst hQ
    exact zp_iret hx hb hr hlocks (rfl) dMD_wide_13
  · refine lv_iload_n hx hb dMD_wide_4 rfl (lv_at hl 1 rfl) ?_
    refine lv_aload_n hx hb dMD_wide_5 rfl (lv_at hl 0 rfl) ?_
    refine vp_callSi (W.runV (As := []) (rest := [.int x]) ⟨hx, hb, hml, hown, hz⟩ (c_MD_columns l dC dI h0 b0 b1 b2 b3 b4 b5 b6 b7 b8 b9 b10 b11 b12 b13 b14 b15 b16 b17 ) (cwV 0 hz (z_gV wd_732 wd_701 wd_702 wd_37 wd_703) rfl rfl rfl (by decide +kernel) ⟨Nat.le_of_ble_eq_true rfl, Nat.le_of_ble_eq_true rfl⟩) (zp_preV (q0 := 0) (q := (RMD, TMD, 26)) hK hP rfl rfl [0] rfl [] rfl z_true (fun _ _ _ => trivial)) rfl rfl hl.1 rfl (lv_room (Nat.le_of_ble_eq_true rfl)) dMD_wide_6 ⟨Nat.le_of_ble_eq_true rfl, Nat.le_of_ble_eq_true rfl⟩) (fun r2 h_r2 => ?_)
    have h_r2 : r2 = 0 := h_r2
    subst h_r2
    refine lv_icmp_lt (tgt := 14) hx hb dMD_wide_9 rfl (fun h => absurd h (h1)) (fun _ => ?_)
    refine lv_iconst (v := (-1)) hx hb dMD_wide_12 (by decide) ?_
    subst hQ
    exact zp_iret hx hb hr hlocks (rfl) dMD_wide_13

set_option maxHeartbeats 4000000 in
set_option maxRecDepth 100000 in
theorem c_MD_high (l : Launch) (dC : Nat → ClassId) (dI : Nat → Nat → Nat) (h0 : Nat) (b0 : Nat) (b1 : Nat) (b2 : Nat) (b3 : Nat) (b4 : Nat) (b5 : Nat) (b6 : Nat) (b7 : Nat) (b8 : Nat) (b9 : Nat) (b10 : Nat) (b11 : Nat) (b12 : Nat) (b13 : Nat) (b14 : Nat) (b15 : Nat) (b16 : Nat) (b17 : Nat) (kb0 : ClassId) (kb1 : ClassId) (y : Int32) : zp_M l yMD_high wMD_high ({ frames := 2, cells := 0, slots := 0, locals := 44 }) [.ref h0, .int y] (dC, dI) vwCl [(h0, .inr (6, [.int 1, .ref b0, .ref b1, .int 0, .ref b2, .ref b3, .ref b4, .ref b5, .ref b6, .ref b7, .ref b8, .ref b9, .ref b10, .ref b11, .int (-1), .int 0, .int 0, .int 0, .int 0, .int 0, .ref b12, .ref b13, .ref b14, .ref b15, .ref b16, .ref b17])), (b0, .inl (kb0, 8, .inl (fun _ => 0))), (b1, .inl (kb1, 8, .inl (fun _ => 0)))] [(kb0, .int), (kb1, .int)] (fun _ => True) (fun r => r = (-1)) := by
  refine zp_head (cc := cMD_high) (maxL := 2) (ret := (some .int)) (by decide +kernel) rfl (Nat.le_of_ble_eq_true rfl) ?_
  intro p e s m below meth c ls F hP hK hX hl
  obtain ⟨hx, hb, hml, hr, hlocks, hown, hts⟩ := F
  have hown : s.vm.findClass "SpannedCellsModel" = some m.cls := hown
  have hz : ∀ w9 ∈ zT, w9.before [.ref h0, .int y].toArray s = true := fun w9 h => hts w9 (List.mem_cons_of_mem _ h)
  have hl : lv_has ls 2 [(0, .ref h0), (1, .int y)] := hl
  refine z_q (fun Q hQ => ?_)
  refine lv_iload_n hx hb dMD_high_0 rfl (lv_at hl 1 rfl) ?_
  refine lv_if_lt (tgt := 12) hx hb dMD_high_1 rfl (fun h1 => ?_) (fun h1 => ?_)
  · refine lv_iconst (v := (-1)) hx hb dMD_high_12 (by decide) ?_
    subst hQ
    exact zp_iret hx hb hr hlocks (rfl) dMD_high_13
  · refine lv_iload_n hx hb dMD_high_4 rfl (lv_at hl 1 rfl) ?_
    refine lv_aload_n hx hb dMD_high_5 rfl (lv_at hl 0 rfl) ?_
    refine vp_callSi (W.runV (As := []) (rest := [.int y]) ⟨hx, hb, hml, hown, hz⟩ (c_MD_rows l dC dI h0 b0 b1 b2 b3 b4 b5 b6 b7 b8 b9 b10 b11 b12 b13 b14 b15 b16 b17 kb0 kb1 ) (cwV 0 hz (z_gV wd_733 wd_705 wd_706 wd_37 wd_707) rfl rfl rfl (by decide +kernel) ⟨Nat.le_of_ble_eq_true rfl, Nat.le_of_ble_eq_true rfl⟩) (zp_preV (q0 := 0) (q := (RMD, TMD, 26)) hK hP rfl rfl [0, 1, 2] rfl [0, 1] rfl z_true (fun _ _ _ => trivial)) rfl rfl hl.1 rfl (lv_room (Nat.le_of_ble_eq_true rfl)) dMD_high_6 ⟨Nat.le_of_ble_eq_true rfl, Nat.le_of_ble_eq_true rfl⟩) (fun r2 h_r2 => ?_)
    have h_r2 : r2 = 0 := h_r2
    subst h_r2
    refine lv_icmp_lt (tgt := 14) hx hb dMD_high_9 rfl (fun h => absurd h (h1)) (fun _ => ?_)
    refine lv_iconst (v := (-1)) hx hb dMD_high_12 (by decide) ?_
    subst hQ
    exact zp_iret hx hb hr hlocks (rfl) dMD_high_13

set_option maxHeartbeats 4000000 in
set_option maxRecDepth 100000 in
theorem c_MD_place (l : Launch) (dC : Nat → ClassId) (dI : Nat → Nat → Nat) (h0 : Nat) (b0 : Nat) (b1 : Nat) (b2 : Nat) (b3 : Nat) (b4 : Nat) (b5 : Nat) (b6 : Nat) (b7 : Nat) (b8 : Nat) (b9 : Nat) (b10 : Nat) (b11 : Nat) (b12 : Nat) (b13 : Nat) (b14 : Nat) (b15 : Nat) (b16 : Nat) (b17 : Nat) (k : Int32) (w : Int32) : zp_M l yMD_place wMD_place ({ frames := 1, cells := 0, slots := 0, locals := 21 }) [.ref h0, .int k, .int w] (dC, dI) vwCl [(h0, .inr (6, [.int 1, .ref b0, .ref b1, .int 0, .ref b2, .ref b3, .ref b4, .ref b5, .ref b6, .ref b7, .ref b8, .ref b9, .ref b10, .ref b11, .int (-1), .int 0, .int 0, .int 0, .int 0, .int 0, .ref b12, .ref b13, .ref b14, .ref b15, .ref b16, .ref b17]))] [] (fun _ => True) (fun r => r = (-1)) := by
  refine zp_head (cc := cMD_place) (maxL := 7) (ret := (some .int)) (by decide +kernel) rfl (Nat.le_of_ble_eq_true rfl) ?_
  intro p e s m below meth c ls F hP hK hX hl
  obtain ⟨hx, hb, hml, hr, hlocks, hown, hts⟩ := F
  have hown : s.vm.findClass "SpannedCellsModel" = some m.cls := hown
  have hz : ∀ w9 ∈ zT, w9.before [.ref h0, .int k, .int w].toArray s = true := fun w9 h => hts w9 (List.mem_cons_of_mem _ h)
  have hl : lv_has ls 7 [(0, .ref h0), (1, .int k), (2, .int w)] := hl
  refine z_q (fun Q hQ => ?_)
  refine lv_aload_n hx hb dMD_place_0 rfl (lv_at hl 0 rfl) ?_
  refine lv_iload_n hx hb dMD_place_1 rfl (lv_at hl 1 rfl) ?_
  refine vp_callSi (W.runV (As := [.int k]) (rest := []) ⟨hx, hb, hml, hown, hz⟩ (c_MD_isCell l dC dI h0 b0 b1 b2 b3 b4 b5 b6 b7 b8 b9 b10 b11 b12 b13 b14 b15 b16 b17 k ) (cwV 1 hz (z_gV wd_688 wd_690 wd_15 wd_37 wd_691) rfl rfl rfl (by decide +kernel) ⟨Nat.le_of_ble_eq_true rfl, Nat.le_of_ble_eq_true rfl⟩) (zp_preV (q0 := 0) (q := (RMD, TMD, 26)) hK hP rfl rfl [0] rfl [] rfl z_true (fun _ _ _ => trivial)) rfl rfl hl.1 rfl (lv_room (Nat.le_of_ble_eq_true rfl)) dMD_place_2 ⟨Nat.le_of_ble_eq_true rfl, Nat.le_of_ble_eq_true rfl⟩) (fun r1 h_r1 => ?_)
  have h_r1 : r1 = 0 := h_r1
  subst h_r1
  refine lv_if_eq (tgt := 17) hx hb dMD_place_5 rfl (fun _ => ?_) (fun h => absurd (by decide) h)
  refine lv_iconst (v := (-1)) hx hb dMD_place_17 (by decide) ?_
  subst hQ
  exact zp_iret hx hb hr hlocks (rfl) dMD_place_18

set_option maxHeartbeats 4000000 in
set_option maxRecDepth 100000 in
theorem c_MD_edge (l : Launch) (dC : Nat → ClassId) (dI : Nat → Nat → Nat) (h0 : Nat) (b0 : Nat) (b1 : Nat) (b2 : Nat) (b3 : Nat) (b4 : Nat) (b5 : Nat) (b6 : Nat) (b7 : Nat) (b8 : Nat) (b9 : Nat) (b10 : Nat) (b11 : Nat) (b12 : Nat) (b13 : Nat) (b14 : Nat) (b15 : Nat) (b16 : Nat) (b17 : Nat) (kb0 : ClassId) (kb1 : ClassId) (x : Int32) (y : Int32) (f : Int32) : zp_M l yMD_edge wMD_edge ({ frames := 1, cells := 0, slots := 0, locals := 22 }) [.ref h0, .int x, .int y, .int f] (dC, dI) vwCl [(h0, .inr (6, [.int 1, .ref b0, .ref b1, .int 0, .ref b2, .ref b3, .ref b4, .ref b5, .ref b6, .ref b7, .ref b8, .ref b9, .ref b10, .ref b11, .int (-1), .int 0, .int 0, .int 0, .int 0, .int 0, .ref b12, .ref b13, .ref b14, .ref b15, .ref b16, .ref b17])), (b0, .inl (kb0, 8, .inl (fun _ => 0))), (b1, .inl (kb1, 8, .inl (fun _ => 0)))] [(kb0, .int), (kb1, .int)] (fun _ => True) (fun r => r = (-1)) := by
  refine zp_head (cc := cMD_edge) (maxL := 6) (ret := (some .int)) (by decide +kernel) rfl (Nat.le_of_ble_eq_true rfl) ?_
  intro p e s m below meth c ls F hP hK hX hl
  obtain ⟨hx, hb, hml, hr, hlocks, hown, hts⟩ := F
  have hown : s.vm.findClass "SpannedCellsModel" = some m.cls := hown
  have hz : ∀ w9 ∈ zT, w9.before [.ref h0, .int x, .int y, .int f].toArray s = true := fun w9 h => hts w9 (List.mem_cons_of_mem _ h)
  have hl : lv_has ls 6 [(0, .ref h0), (1, .int x), (2, .int y), (3, .int f)] := hl
  refine z_q (fun Q hQ => ?_)
  refine lv_iload_n hx hb dMD_edge_0 rfl (lv_at hl 1 rfl) ?_
  refine lv_if_lt (tgt := 24) hx hb dMD_edge_1 rfl (fun h1 => ?_) (fun h1 => ?_)
  · refine lv_iconst (v := (-1)) hx hb dMD_edge_24 (by decide) ?_
    subst hQ
    exact zp_iret hx hb hr hlocks (rfl) dMD_edge_25
  · refine lv_iload_n hx hb dMD_edge_4 rfl (lv_at hl 1 rfl) ?_
    refine lv_aload_n hx hb dMD_edge_5 rfl (lv_at hl 0 rfl) ?_
    refine vp_callSi (W.runV (As := []) (rest := [.int x]) ⟨hx, hb, hml, hown, hz⟩ (c_MD_columns l dC dI h0 b0 b1 b2 b3 b4 b5 b6 b7 b8 b9 b10 b11 b12 b13 b14 b15 b16 b17 ) (cwV 0 hz (z_gV wd_732 wd_701 wd_702 wd_37 wd_703) rfl rfl rfl (by decide +kernel) ⟨Nat.le_of_ble_eq_true rfl, Nat.le_of_ble_eq_true rfl⟩) (zp_preV (q0 := 0) (q := (RMD, TMD, 26)) hK hP rfl rfl [0] rfl [] rfl z_true (fun _ _ _ => trivial)) rfl rfl hl.1 rfl (lv_room (Nat.le_of_ble_eq_true rfl)) dMD_edge_6 ⟨Nat.le_of_ble_eq_true rfl, Nat.le_of_ble_eq_true rfl⟩) (fun r2 h_r2 => ?_)
    have h_r2 : r2 = 0 := h_r2
    subst h_r2
    refine lv_icmp_ge (tgt := 24) hx hb dMD_edge_9 rfl (fun _ => ?_) (fun h => absurd (Int32.not_lt.mp h1) h)
    refine lv_iconst (v := (-1)) hx hb dMD_edge_24 (by decide) ?_
    subst hQ
    exact zp_iret hx hb hr hlocks (rfl) dMD_edge_25

set_option maxHeartbeats 4000000 in
set_option maxRecDepth 100000 in
theorem c_MD_greater (l : Launch) (dC : Nat → ClassId) (dI : Nat → Nat → Nat) : zp_M l yMD_greater wMD_greater ({ frames := 0, cells := 0, slots := 0, locals := 0 }) [.int 0, .int 0] (dC, dI) vwCl [] [] (fun _ => True) (fun r => r = 0) := by
  refine zp_head (cc := cMD_greater) (maxL := 2) (ret := (some .int)) (by decide +kernel) rfl (Nat.le_of_ble_eq_true rfl) ?_
  intro p e s m below meth c ls F hP hK hX hl
  obtain ⟨hx, hb, hml, hr, hlocks, hown, hts⟩ := F
  have hown : s.vm.findClass "SpannedCellsModel" = some m.cls := hown
  have hz : ∀ w9 ∈ zT, w9.before [.int 0, .int 0].toArray s = true := fun w9 h => hts w9 (List.mem_cons_of_mem _ h)
  have hl : lv_has ls 2 [(0, .int 0), (1, .int 0)] := hl
  refine z_q (fun Q hQ => ?_)
  refine lv_iload_n hx hb dMD_greater_0 rfl (lv_at hl 0 rfl) ?_
  refine lv_iload_n hx hb dMD_greater_1 rfl (lv_at hl 1 rfl) ?_
  refine lv_icmp_le (tgt := 9) hx hb dMD_greater_2 rfl (fun _ => ?_) (fun h => absurd (by decide) h)
  refine lv_iload_n hx hb dMD_greater_9 rfl (lv_at hl 1 rfl) ?_
  subst hQ
  exact zp_iret hx hb hr hlocks (rfl) dMD_greater_10

set_option maxHeartbeats 4000000 in
set_option maxRecDepth 100000 in
theorem c_MD_sumOf (l : Launch) (dC : Nat → ClassId) (dI : Nat → Nat → Nat) (a : Nat) : zp_M l yMD_sumOf wMD_sumOf ({ frames := 0, cells := 0, slots := 0, locals := 0 }) [.ref a, .int 0, .int 0] (dC, dI) vwCl [] [] (fun _ => True) (fun r => r = 0) := by
  refine zp_head (cc := cMD_sumOf) (maxL := 5) (ret := (some .int)) (by decide +kernel) rfl (Nat.le_of_ble_eq_true rfl) ?_
  intro p e s m below meth c ls F hP hK hX hl
  obtain ⟨hx, hb, hml, hr, hlocks, hown, hts⟩ := F
  have hown : s.vm.findClass "SpannedCellsModel" = some m.cls := hown
  have hz : ∀ w9 ∈ zT, w9.before [.ref a, .int 0, .int 0].toArray s = true := fun w9 h => hts w9 (List.mem_cons_of_mem _ h)
  have hl : lv_has ls 5 [(0, .ref a), (1, .int 0), (2, .int 0)] := hl
  refine z_q (fun Q hQ => ?_)
  refine lv_iconst (v := 0) hx hb dMD_sumOf_0 (by decide) ?_
  refine lv_istore_n hx hb dMD_sumOf_1 rfl hl (Nat.le_of_ble_eq_true rfl) rfl (fun ls hl => ?_)
  have hl : lv_has ls 5 [(3, .int 0), (0, .ref a), (1, .int 0), (2, .int 0)] := hl
  refine lv_iload_n hx hb dMD_sumOf_2 rfl (lv_at hl 2 rfl) ?_
  refine lv_istore hx hb dMD_sumOf_3 hl (Nat.le_of_ble_eq_true rfl) rfl (fun ls hl => ?_)
  have hl : lv_has ls 5 [(4, .int 0), (3, .int 0), (0, .ref a), (1, .int 0), (2, .int 0)] := hl
  refine lv_iload hx hb dMD_sumOf_5 (lv_at hl 0 rfl) ?_
  refine lv_iload_n hx hb dMD_sumOf_7 rfl (lv_at hl 4 rfl) ?_
  refine lv_icmp_ge (tgt := 24) hx hb dMD_sumOf_8 rfl (fun _ => ?_) (fun h => absurd (by decide) h)
  refine lv_iload_n hx hb dMD_sumOf_24 rfl (lv_at hl 1 rfl) ?_
  subst hQ
  exact zp_iret hx hb hr hlocks (rfl) dMD_sumOf_25

set_option maxHeartbeats 4000000 in
set_option maxRecDepth 100000 in
theorem c_MD_room (l : Launch) (dC : Nat → ClassId) (dI : Nat → Nat → Nat) (h0 : Nat) (b0 : Nat) (b1 : Nat) (b2 : Nat) (b3 : Nat) (b4 : Nat) (b5 : Nat) (b6 : Nat) (b7 : Nat) (b8 : Nat) (b9 : Nat) (b10 : Nat) (b11 : Nat) (b12 : Nat) (b13 : Nat) (b14 : Nat) (b15 : Nat) (b16 : Nat) (b17 : Nat) : zp_M l yMD_room wMD_room ({ frames := 1, cells := 0, slots := 0, locals := 22 }) [.ref h0] (dC, dI) vwCl [(h0, .inr (6, [.int 1, .ref b0, .ref b1, .int 0, .ref b2, .ref b3, .ref b4, .ref b5, .ref b6, .ref b7, .ref b8, .ref b9, .ref b10, .ref b11, .int (-1), .int 0, .int 0, .int 0, .int 0, .int 0, .ref b12, .ref b13, .ref b14, .ref b15, .ref b16, .ref b17]))] [] (fun _ => True) (fun r => r = 0) := by
  refine zp_head (cc := cMD_room) (maxL := 1) (ret := (some .int)) (by decide +kernel) rfl (Nat.le_of_ble_eq_true rfl) ?_
  intro p e s m below meth c ls F hP hK hX hl
  obtain ⟨hx, hb, hml, hr, hlocks, hown, hts⟩ := F
  have hown : s.vm.findClass "SpannedCellsModel" = some m.cls := hown
  have hz : ∀ w9 ∈ zT, w9.before [.ref h0].toArray s = true := fun w9 h => hts w9 (List.mem_cons_of_mem _ h)
  have hl : lv_has ls 1 [(0, .ref h0)] := hl
  refine z_q (fun Q hQ => ?_)
  refine lv_iconst (v := 0) hx hb dMD_room_0 (by decide) ?_
  refine lv_aload_n hx hb dMD_room_1 rfl (lv_at hl 0 rfl) ?_
  refine va_get (D := (dC, dI)) (ci := 6) (v := .int 0) (C := RMD) (T := TMD) (N := 26) hx hb hz in_MD hown hK hP 0 rfl rfl 17 (by decide) (hz _ wd_601) (fun _ h9 => h9) rfl dMD_room_2 ?_
  refine lv_aload_n hx hb dMD_room_5 rfl (lv_at hl 0 rfl) ?_
  refine va_get (D := (dC, dI)) (ci := 6) (v := .int 0) (C := RMD) (T := TMD) (N := 26) hx hb hz in_MD hown hK hP 0 rfl rfl 18 (by decide) (hz _ wd_602) (fun _ h9 => h9) rfl dMD_room_6 ?_
  refine lv_aload_n hx hb dMD_room_9 rfl (lv_at hl 0 rfl) ?_
  refine vp_callSi (W.runV (As := []) (rest := [.int 0, .int 0, .int 0]) ⟨hx, hb, hml, hown, hz⟩ (c_MD_columns l dC dI h0 b0 b1 b2 b3 b4 b5 b6 b7 b8 b9 b10 b11 b12 b13 b14 b15 b16 b17 ) (cwV 0 hz (z_gV wd_732 wd_701 wd_702 wd_37 wd_703) rfl rfl rfl (by decide +kernel) ⟨Nat.le_of_ble_eq_true rfl, Nat.le_of_ble_eq_true rfl⟩) (zp_preV (q0 := 0) (q := (RMD, TMD, 26)) hK hP rfl rfl [0] rfl [] rfl z_true (fun _ _ _ => trivial)) rfl rfl hl.1 rfl (lv_room (Nat.le_of_ble_eq_true rfl)) dMD_room_10 ⟨Nat.le_of_ble_eq_true rfl, Nat.le_of_ble_eq_true rfl⟩) (fun r1 h_r1 => ?_)
  have h_r1 : r1 = 0 := h_r1
  subst h_r1
  refine lv_iconst (v := 1) hx hb dMD_room_13 (by decide) ?_
  refine lv_iadd hx hb dMD_room_14 ?_
  refine lv_topi (fun x2 e3 => ?_)
  have e3 : x2 = 1 := e3.trans (by decide)
  subst e3
  refine lv_imul hx hb dMD_room_15 ?_
  refine lv_topi (fun x4 e5 => ?_)
  have e5 : x4 = 0 := e5.trans (by decide)
  subst e5
  refine lv_isub hx hb dMD_room_16 ?_
  refine lv_topi (fun x6 e7 => ?_)
  have e7 : x6 = 0 := e7.trans (by decide)
  subst e7
  refine vp_callSi (W.runS (As := [.int 0, .int 0]) (rest := []) ⟨hx, hb, hml, hown, hz⟩ (c_MD_greater l dC dI  ) (va_cwS 2 hz (z_gS wd_755 wd_756 wd_37 wd_757) rfl rfl rfl (by decide +kernel) ⟨Nat.le_of_ble_eq_true rfl, Nat.le_of_ble_eq_true rfl⟩) (zp_preS hK hP [] rfl [] rfl z_true (fun _ _ _ => trivial)) rfl rfl hl.1 rfl (lv_room (Nat.le_of_ble_eq_true rfl)) dMD_room_17 ⟨Nat.le_of_ble_eq_true rfl, Nat.le_of_ble_eq_true rfl⟩) (fun r8 h_r8 => ?_)
  have h_r8 : r8 = 0 := h_r8
  subst h_r8
  subst hQ
  exact zp_iret hx hb hr hlocks (rfl) dMD_room_20
