set_option maxHeartbeats 4000000 in
set_option maxRecDepth 100000 in
theorem c_GR_ownerOf (l : Launch) (dC : Nat → ClassId) (dI : Nat → Nat → Nat) (g : Nat) (al : Nat) (ed : Nat) (mo : Int32) (x : Int32) (y : Int32) : zp_M l yGR_ownerOf wGR_ownerOf ({ frames := 1, cells := 0, slots := 0, locals := 20 }) [.ref g, .int x, .int y] (dC, dI) vwCl [(g, .inr (1, [.ref al, .int 1, .int 0, .int 0, .int 0, .int 0])), (al, .inr (2, [.ref ed, .int 0, .int mo]))] [] (fun _ => True) (fun r => r = (-1)) := by
  refine zp_head (cc := cGR_ownerOf) (maxL := 4) (ret := (some .int)) (by decide +kernel) rfl (Nat.le_of_ble_eq_true rfl) ?_
  intro p e s m below meth c ls F hP hK hX hl
  obtain ⟨hx, hb, hml, hr, hlocks, hown, hts⟩ := F
  have hown : s.vm.findClass "SpannedCells$Grid" = some m.cls := hown
  have hz : ∀ w9 ∈ zT, w9.before [.ref g, .int x, .int y].toArray s = true := fun w9 h => hts w9 (List.mem_cons_of_mem _ h)
  have hl : lv_has ls 4 [(0, .ref g), (1, .int x), (2, .int y)] := hl
  refine z_q (fun Q hQ => ?_)
  refine lv_iconst (v := 0) hx hb dGR_ownerOf_0 (by decide) ?_
  refine lv_istore_n hx hb dGR_ownerOf_1 rfl hl (Nat.le_of_ble_eq_true rfl) rfl (fun ls hl => ?_)
  have hl : lv_has ls 4 [(3, .int 0), (0, .ref g), (1, .int x), (2, .int y)] := hl
  refine lv_iload_n hx hb dGR_ownerOf_2 rfl (lv_at hl 0 rfl) ?_
  refine lv_aload_n hx hb dGR_ownerOf_3 rfl (lv_at hl 1 rfl) ?_
  refine va_get (D := (dC, dI)) (ci := 1) (v := .ref al) (C := RGR) (T := TGR) (N := 6) hx hb hz in_GR hown hK hP 0 rfl rfl 0 (by decide) (hz _ wd_85) (fun _ h9 => h9) rfl dGR_ownerOf_4 ?_
  refine vp_callSi (W.runV (As := []) (rest := [.int 0]) ⟨hx, hb, hml, hown, hz⟩ (c_AL_size l dC dI al ed 0 mo ) (cwV 0 hz (z_gV wd_192 wd_193 wd_194 wd_33 wd_195) rfl rfl rfl (by decide +kernel) ⟨Nat.le_of_ble_eq_true rfl, Nat.le_of_ble_eq_true rfl⟩) (zp_preV (q0 := 1) (q := (RAL, TAL, 3)) hK hP rfl rfl [1] rfl [] rfl z_true (fun _ _ _ => trivial)) rfl rfl hl.1 rfl (lv_room (Nat.le_of_ble_eq_true rfl)) dGR_ownerOf_7 ⟨Nat.le_of_ble_eq_true rfl, Nat.le_of_ble_eq_true rfl⟩) (fun r1 h_r1 => ?_)
  have h_r1 : r1 = 0 := h_r1
  subst h_r1
  refine lv_icmp_ge (tgt := 40) hx hb dGR_ownerOf_10 rfl (fun _ => ?_) (fun h => absurd (by decide) h)
  refine lv_iconst (v := (-1)) hx hb dGR_ownerOf_40 (by decide) ?_
  subst hQ
  exact zp_iret hx hb hr hlocks (rfl) dGR_ownerOf_41

set_option maxHeartbeats 4000000 in
set_option maxRecDepth 100000 in
theorem c_GR_countOwnedSlots (l : Launch) (dC : Nat → ClassId) (dI : Nat → Nat → Nat) (g : Nat) (al : Nat) (ed : Nat) (mo : Int32) : zp_M l yGR_countOwnedSlots wGR_countOwnedSlots ({ frames := 0, cells := 0, slots := 0, locals := 0 }) [.ref g] (dC, dI) vwCl [(g, .inr (1, [.ref al, .int 1, .int 0, .int 0, .int 0, .int 0])), (al, .inr (2, [.ref ed, .int 0, .int mo]))] [] (fun _ => True) (fun r => r = 0) := by
  refine zp_head (cc := cGR_countOwnedSlots) (maxL := 4) (ret := (some .int)) (by decide +kernel) rfl (Nat.le_of_ble_eq_true rfl) ?_
  intro p e s m below meth c ls F hP hK hX hl
  obtain ⟨hx, hb, hml, hr, hlocks, hown, hts⟩ := F
  have hown : s.vm.findClass "SpannedCells$Grid" = some m.cls := hown
  have hz : ∀ w9 ∈ zT, w9.before [.ref g].toArray s = true := fun w9 h => hts w9 (List.mem_cons_of_mem _ h)
  have hl : lv_has ls 4 [(0, .ref g)] := hl
  refine z_q (fun Q hQ => ?_)
  refine lv_iconst (v := 0) hx hb dGR_countOwnedSlots_0 (by decide) ?_
  refine lv_istore_n hx hb dGR_countOwnedSlots_1 rfl hl (Nat.le_of_ble_eq_true rfl) rfl (fun ls hl => ?_)
  have hl : lv_has ls 4 [(1, .int 0), (0, .ref g)] := hl
  refine lv_iconst (v := 0) hx hb dGR_countOwnedSlots_2 (by decide) ?_
  refine lv_istore_n hx hb dGR_countOwnedSlots_3 rfl hl (Nat.le_of_ble_eq_true rfl) rfl (fun ls hl => ?_)
  have hl : lv_has ls 4 [(2, .int 0), (1, .int 0), (0, .ref g)] := hl
  refine lv_iload_n hx hb dGR_countOwnedSlots_4 rfl (lv_at hl 0 rfl) ?_
  refine lv_aload_n hx hb dGR_countOwnedSlots_5 rfl (lv_at hl 2 rfl) ?_
  refine va_get (D := (dC, dI)) (ci := 1) (v := .int 0) (C := RGR) (T := TGR) (N := 6) hx hb hz in_GR hown hK hP 0 rfl rfl 4 (by decide) (hz _ wd_89) (fun _ h9 => h9) rfl dGR_countOwnedSlots_6 ?_
  refine lv_icmp_ge (tgt := 52) hx hb dGR_countOwnedSlots_9 rfl (fun _ => ?_) (fun h => absurd (by decide) h)
  refine lv_iload_n hx hb dGR_countOwnedSlots_52 rfl (lv_at hl 1 rfl) ?_
  subst hQ
  exact zp_iret hx hb hr hlocks (rfl) dGR_countOwnedSlots_53

set_option maxHeartbeats 4000000 in
set_option maxRecDepth 100000 in
theorem c_GR_countOverlaps (l : Launch) (dC : Nat → ClassId) (dI : Nat → Nat → Nat) (g : Nat) (al : Nat) (ed : Nat) (mo : Int32) : zp_M l yGR_countOverlaps wGR_countOverlaps ({ frames := 1, cells := 0, slots := 0, locals := 23 }) [.ref g] (dC, dI) vwCl [(g, .inr (1, [.ref al, .int 1, .int 0, .int 0, .int 0, .int 0])), (al, .inr (2, [.ref ed, .int 0, .int mo]))] [] (fun _ => True) (fun r => r = 0) := by
  refine zp_head (cc := cGR_countOverlaps) (maxL := 3) (ret := (some .int)) (by decide +kernel) rfl (Nat.le_of_ble_eq_true rfl) ?_
  intro p e s m below meth c ls F hP hK hX hl
  obtain ⟨hx, hb, hml, hr, hlocks, hown, hts⟩ := F
  have hown : s.vm.findClass "SpannedCells$Grid" = some m.cls := hown
  have hz : ∀ w9 ∈ zT, w9.before [.ref g].toArray s = true := fun w9 h => hts w9 (List.mem_cons_of_mem _ h)
  have hl : lv_has ls 3 [(0, .ref g)] := hl
  refine z_q (fun Q hQ => ?_)
  refine lv_iconst (v := 0) hx hb dGR_countOverlaps_0 (by decide) ?_
  refine lv_istore_n hx hb dGR_countOverlaps_1 rfl hl (Nat.le_of_ble_eq_true rfl) rfl (fun ls hl => ?_)
  have hl : lv_has ls 3 [(1, .int 0), (0, .ref g)] := hl
  refine lv_iconst (v := 0) hx hb dGR_countOverlaps_2 (by decide) ?_
  refine lv_istore_n hx hb dGR_countOverlaps_3 rfl hl (Nat.le_of_ble_eq_true rfl) rfl (fun ls hl => ?_)
  have hl : lv_has ls 3 [(2, .int 0), (1, .int 0), (0, .ref g)] := hl
  refine lv_iload_n hx hb dGR_countOverlaps_4 rfl (lv_at hl 0 rfl) ?_
  refine lv_aload_n hx hb dGR_countOverlaps_5 rfl (lv_at hl 2 rfl) ?_
  refine va_get (D := (dC, dI)) (ci := 1) (v := .ref al) (C := RGR) (T := TGR) (N := 6) hx hb hz in_GR hown hK hP 0 rfl rfl 0 (by decide) (hz _ wd_85) (fun _ h9 => h9) rfl dGR_countOverlaps_6 ?_
  refine vp_callSi (W.runV (As := []) (rest := [.int 0]) ⟨hx, hb, hml, hown, hz⟩ (c_AL_size l dC dI al ed 0 mo ) (cwV 0 hz (z_gV wd_192 wd_193 wd_194 wd_33 wd_195) rfl rfl rfl (by decide +kernel) ⟨Nat.le_of_ble_eq_true rfl, Nat.le_of_ble_eq_true rfl⟩) (zp_preV (q0 := 1) (q := (RAL, TAL, 3)) hK hP rfl rfl [1] rfl [] rfl z_true (fun _ _ _ => trivial)) rfl rfl hl.1 rfl (lv_room (Nat.le_of_ble_eq_true rfl)) dGR_countOverlaps_9 ⟨Nat.le_of_ble_eq_true rfl, Nat.le_of_ble_eq_true rfl⟩) (fun r1 h_r1 => ?_)
  have h_r1 : r1 = 0 := h_r1
  subst h_r1
  refine lv_icmp_ge (tgt := 53) hx hb dGR_countOverlaps_12 rfl (fun _ => ?_) (fun h => absurd (by decide) h)
  refine lv_iload_n hx hb dGR_countOverlaps_53 rfl (lv_at hl 1 rfl) ?_
  refine lv_aload_n hx hb dGR_countOverlaps_54 rfl (lv_at hl 2 rfl) ?_
  refine vp_callSi (W.runV (As := []) (rest := [.int 0]) ⟨hx, hb, hml, hown, hz⟩ (c_GR_countOwnedSlots l dC dI g al ed mo ) (cwV 0 hz (z_gV wd_416 wd_418 wd_5 wd_30 wd_419) rfl rfl rfl (by decide +kernel) ⟨Nat.le_of_ble_eq_true rfl, Nat.le_of_ble_eq_true rfl⟩) (zp_preV (q0 := 0) (q := (RGR, TGR, 6)) hK hP rfl rfl [0, 1] rfl [] rfl z_true (fun _ _ _ => trivial)) rfl rfl hl.1 rfl (lv_room (Nat.le_of_ble_eq_true rfl)) dGR_countOverlaps_55 ⟨Nat.le_of_ble_eq_true rfl, Nat.le_of_ble_eq_true rfl⟩) (fun r2 h_r2 => ?_)
  have h_r2 : r2 = 0 := h_r2
  subst h_r2
  refine lv_isub hx hb dGR_countOverlaps_58 ?_
  refine lv_topi (fun x3 e4 => ?_)
  have e4 : x3 = 0 := e4.trans (by decide)
  subst e4
  subst hQ
  exact zp_iret hx hb hr hlocks (rfl) dGR_countOverlaps_59

set_option maxHeartbeats 4000000 in
set_option maxRecDepth 100000 in
theorem c_GR_countEmptyColumns (l : Launch) (dC : Nat → ClassId) (dI : Nat → Nat → Nat) (g : Nat) (al : Nat) (ed : Nat) (mo : Int32) : zp_M l yGR_countEmptyColumns wGR_countEmptyColumns ({ frames := 0, cells := 0, slots := 0, locals := 0 }) [.ref g] (dC, dI) vwCl [(g, .inr (1, [.ref al, .int 1, .int 0, .int 0, .int 0, .int 0])), (al, .inr (2, [.ref ed, .int 0, .int mo]))] [] (fun _ => True) (fun r => r = 0) := by
  refine zp_head (cc := cGR_countEmptyColumns) (maxL := 3) (ret := (some .int)) (by decide +kernel) rfl (Nat.le_of_ble_eq_true rfl) ?_
  intro p e s m below meth c ls F hP hK hX hl
  obtain ⟨hx, hb, hml, hr, hlocks, hown, hts⟩ := F
  have hown : s.vm.findClass "SpannedCells$Grid" = some m.cls := hown
  have hz : ∀ w9 ∈ zT, w9.before [.ref g].toArray s = true := fun w9 h => hts w9 (List.mem_cons_of_mem _ h)
  have hl : lv_has ls 3 [(0, .ref g)] := hl
  refine z_q (fun Q hQ => ?_)
  refine lv_iconst (v := 0) hx hb dGR_countEmptyColumns_0 (by decide) ?_
  refine lv_istore_n hx hb dGR_countEmptyColumns_1 rfl hl (Nat.le_of_ble_eq_true rfl) rfl (fun ls hl => ?_)
  have hl : lv_has ls 3 [(1, .int 0), (0, .ref g)] := hl
  refine lv_iconst (v := 0) hx hb dGR_countEmptyColumns_2 (by decide) ?_
  refine lv_istore_n hx hb dGR_countEmptyColumns_3 rfl hl (Nat.le_of_ble_eq_true rfl) rfl (fun ls hl => ?_)
  have hl : lv_has ls 3 [(2, .int 0), (1, .int 0), (0, .ref g)] := hl
  refine lv_iload_n hx hb dGR_countEmptyColumns_4 rfl (lv_at hl 0 rfl) ?_
  refine lv_aload_n hx hb dGR_countEmptyColumns_5 rfl (lv_at hl 2 rfl) ?_
  refine va_get (D := (dC, dI)) (ci := 1) (v := .int 0) (C := RGR) (T := TGR) (N := 6) hx hb hz in_GR hown hK hP 0 rfl rfl 5 (by decide) (hz _ wd_90) (fun _ h9 => h9) rfl dGR_countEmptyColumns_6 ?_
  refine lv_icmp_ge (tgt := 34) hx hb dGR_countEmptyColumns_9 rfl (fun _ => ?_) (fun h => absurd (by decide) h)
  refine lv_iload_n hx hb dGR_countEmptyColumns_34 rfl (lv_at hl 1 rfl) ?_
  subst hQ
  exact zp_iret hx hb hr hlocks (rfl) dGR_countEmptyColumns_35

set_option maxHeartbeats 4000000 in
set_option maxRecDepth 100000 in
theorem c_GR_countEmptyRows (l : Launch) (dC : Nat → ClassId) (dI : Nat → Nat → Nat) (g : Nat) (al : Nat) (ed : Nat) (mo : Int32) : zp_M l yGR_countEmptyRows wGR_countEmptyRows ({ frames := 0, cells := 0, slots := 0, locals := 0 }) [.ref g] (dC, dI) vwCl [(g, .inr (1, [.ref al, .int 1, .int 0, .int 0, .int 0, .int 0])), (al, .inr (2, [.ref ed, .int 0, .int mo]))] [] (fun _ => True) (fun r => r = 0) := by
  refine zp_head (cc := cGR_countEmptyRows) (maxL := 3) (ret := (some .int)) (by decide +kernel) rfl (Nat.le_of_ble_eq_true rfl) ?_
  intro p e s m below meth c ls F hP hK hX hl
  obtain ⟨hx, hb, hml, hr, hlocks, hown, hts⟩ := F
  have hown : s.vm.findClass "SpannedCells$Grid" = some m.cls := hown
  have hz : ∀ w9 ∈ zT, w9.before [.ref g].toArray s = true := fun w9 h => hts w9 (List.mem_cons_of_mem _ h)
  have hl : lv_has ls 3 [(0, .ref g)] := hl
  refine z_q (fun Q hQ => ?_)
  refine lv_iconst (v := 0) hx hb dGR_countEmptyRows_0 (by decide) ?_
  refine lv_istore_n hx hb dGR_countEmptyRows_1 rfl hl (Nat.le_of_ble_eq_true rfl) rfl (fun ls hl => ?_)
  have hl : lv_has ls 3 [(1, .int 0), (0, .ref g)] := hl
  refine lv_iconst (v := 0) hx hb dGR_countEmptyRows_2 (by decide) ?_
  refine lv_istore_n hx hb dGR_countEmptyRows_3 rfl hl (Nat.le_of_ble_eq_true rfl) rfl (fun ls hl => ?_)
  have hl : lv_has ls 3 [(2, .int 0), (1, .int 0), (0, .ref g)] := hl
  refine lv_iload_n hx hb dGR_countEmptyRows_4 rfl (lv_at hl 0 rfl) ?_
  refine lv_aload_n hx hb dGR_countEmptyRows_5 rfl (lv_at hl 2 rfl) ?_
  refine va_get (D := (dC, dI)) (ci := 1) (v := .int 0) (C := RGR) (T := TGR) (N := 6) hx hb hz in_GR hown hK hP 0 rfl rfl 4 (by decide) (hz _ wd_89) (fun _ h9 => h9) rfl dGR_countEmptyRows_6 ?_
  refine lv_icmp_ge (tgt := 34) hx hb dGR_countEmptyRows_9 rfl (fun _ => ?_) (fun h => absurd (by decide) h)
  refine lv_iload_n hx hb dGR_countEmptyRows_34 rfl (lv_at hl 1 rfl) ?_
  subst hQ
  exact zp_iret hx hb hr hlocks (rfl) dGR_countEmptyRows_35

set_option maxHeartbeats 4000000 in
set_option maxRecDepth 100000 in
theorem c_GR_putCell (l : Launch) (dC : Nat → ClassId) (dI : Nat → Nat → Nat) (g : Nat) (al : Nat) (ed : Nat) (mo : Int32) (a : Int32) (b : Int32) (c1 : Int32) (d : Int32) (e1 : Int32) : zp_M l yGR_putCell wGR_putCell ({ frames := 0, cells := 0, slots := 0, locals := 0 }) [.ref g, .int a, .int b, .int c1, .int d, .int e1] (dC, dI) vwCl [(g, .inr (1, [.ref al, .int 1, .int 0, .int 0, .int 0, .int 0])), (al, .inr (2, [.ref ed, .int 0, .int mo]))] [] (fun _ => True) (fun r => r = (-1)) := by
  refine zp_head (cc := cGR_putCell) (maxL := 8) (ret := (some .int)) (by decide +kernel) rfl (Nat.le_of_ble_eq_true rfl) ?_
  intro p e s m below meth c ls F hP hK hX hl
  obtain ⟨hx, hb, hml, hr, hlocks, hown, hts⟩ := F
  have hown : s.vm.findClass "SpannedCells$Grid" = some m.cls := hown
  have hz : ∀ w9 ∈ zT, w9.before [.ref g, .int a, .int b, .int c1, .int d, .int e1].toArray s = true := fun w9 h => hts w9 (List.mem_cons_of_mem _ h)
  have hl : lv_has ls 8 [(0, .ref g), (1, .int a), (2, .int b), (3, .int c1), (4, .int d), (5, .int e1)] := hl
  refine z_q (fun Q hQ => ?_)
  refine lv_aload_n hx hb dGR_putCell_0 rfl (lv_at hl 0 rfl) ?_
  refine va_get (D := (dC, dI)) (ci := 1) (v := .int 0) (C := RGR) (T := TGR) (N := 6) hx hb hz in_GR hown hK hP 0 rfl rfl 3 (by decide) (hz _ wd_88) (fun _ h9 => h9) rfl dGR_putCell_1 ?_
  refine lv_if_eq (tgt := 19) hx hb dGR_putCell_4 rfl (fun _ => ?_) (fun h => absurd (by decide) h)
  refine lv_iconst (v := (-1)) hx hb dGR_putCell_19 (by decide) ?_
  subst hQ
  exact zp_iret hx hb hr hlocks (rfl) dGR_putCell_20

set_option maxHeartbeats 4000000 in
set_option maxRecDepth 100000 in
theorem c_GR_hasSlot (l : Launch) (dC : Nat → ClassId) (dI : Nat → Nat → Nat) (g : Nat) (al : Nat) (ed : Nat) (mo : Int32) (x : Int32) (y : Int32) : zp_M l yGR_hasSlot wGR_hasSlot ({ frames := 1, cells := 0, slots := 0, locals := 22 }) [.ref g, .int x, .int y] (dC, dI) vwCl [(g, .inr (1, [.ref al, .int 1, .int 0, .int 0, .int 0, .int 0])), (al, .inr (2, [.ref ed, .int 0, .int mo]))] [] zN (fun r => r = 0) := by
  refine zp_head (cc := cGR_hasSlot) (maxL := 3) (ret := (some .boolean)) (by decide +kernel) rfl (Nat.le_of_ble_eq_true rfl) ?_
  intro p e s m below meth c ls F hP hK hX hl
  obtain ⟨hx, hb, hml, hr, hlocks, hown, hts⟩ := F
  have hown : s.vm.findClass "SpannedCells$Grid" = some m.cls := hown
  have hz : ∀ w9 ∈ zT, w9.before [.ref g, .int x, .int y].toArray s = true := fun w9 h => hts w9 (List.mem_cons_of_mem _ h)
  have hl : lv_has ls 3 [(0, .ref g), (1, .int x), (2, .int y)] := hl
  have hN := hX
  refine z_q (fun Q hQ => ?_)
  refine lv_iload_n hx hb dGR_hasSlot_0 rfl (lv_at hl 1 rfl) ?_
  refine lv_iconst (v := 0) hx hb dGR_hasSlot_1 (by decide) ?_
  refine lv_aload_n hx hb dGR_hasSlot_2 rfl (lv_at hl 0 rfl) ?_
  refine va_get (D := (dC, dI)) (ci := 1) (v := .int 0) (C := RGR) (T := TGR) (N := 6) hx hb hz in_GR hown hK hP 0 rfl rfl 5 (by decide) (hz _ wd_90) (fun _ h9 => h9) rfl dGR_hasSlot_3 ?_
  refine lv_iconst (v := 1) hx hb dGR_hasSlot_6 (by decide) ?_
  refine lv_isub hx hb dGR_hasSlot_7 ?_
  refine lv_topi (fun x1 e2 => ?_)
  have e2 : x1 = (-1) := e2.trans (by decide)
  subst e2
  refine vp_callSi (va_Run.run (va_runSN (As := [.int x, .int 0, .int (-1)]) (rest := []) ⟨hx, hb, hml, hown, hz⟩ (c_SC_within l dC dI x 0 (-1) ) ⟨va_cnB 3 hz (z_gI wd_221) rfl rfl rfl (hN ("SpannedCells$Grid", 77, ySC_within, "SpannedCells") (List.mem_of_getElem? (i := 5) rfl)) (hz _ wd_29) (by decide +kernel) ⟨Nat.le_of_ble_eq_true rfl, Nat.le_of_ble_eq_true rfl⟩, (hz _ wd_220), trivial⟩ (zp_preS hK hP [] rfl [] rfl z_true (fun _ _ _ => trivial)) rfl rfl hl.1 rfl (lv_room (Nat.le_of_ble_eq_true rfl)) dGR_hasSlot_8 ⟨Nat.le_of_ble_eq_true rfl, Nat.le_of_ble_eq_true rfl⟩)) (fun r3 h_r3 => ?_)
  have h_r3 : r3 = 0 := (z_within_none h_r3)
  subst h_r3
  refine lv_if_eq (tgt := 32) hx hb dGR_hasSlot_11 rfl (fun _ => ?_) (fun h => absurd (by decide) h)
  refine lv_iconst (v := 0) hx hb dGR_hasSlot_32 (by decide) ?_
  subst hQ
  exact zp_zret hx hb hr hlocks (Or.inl rfl) (rfl) dGR_hasSlot_33

set_option maxHeartbeats 4000000 in
set_option maxRecDepth 100000 in
theorem c_SC_columns (l : Launch) (dC : Nat → ClassId) (dI : Nat → Nat → Nat) (h0 : Nat) (g : Nat) (wd : Nat) (hh : Nat) (al : Nat) (ed : Nat) (mo : Int32) : zp_M l ySC_columns wSC_columns ({ frames := 1, cells := 0, slots := 0, locals := 20 }) [.ref h0] (dC, dI) vwCl [(h0, .inr (0, [.ref g, .ref wd, .ref hh, .int 0, .int 0, .int 0])), (g, .inr (1, [.ref al, .int 1, .int 0, .int 0, .int 0, .int 0])), (al, .inr (2, [.ref ed, .int 0, .int mo]))] [] (fun _ => True) (fun r => r = 0) := by
  refine zp_head (cc := cSC_columns) (maxL := 1) (ret := (some .int)) (by decide +kernel) rfl (Nat.le_of_ble_eq_true rfl) ?_
  intro p e s m below meth c ls F hP hK hX hl
  obtain ⟨hx, hb, hml, hr, hlocks, hown, hts⟩ := F
  have hown : s.vm.findClass "SpannedCells" = some m.cls := hown
  have hz : ∀ w9 ∈ zT, w9.before [.ref h0].toArray s = true := fun w9 h => hts w9 (List.mem_cons_of_mem _ h)
  have hl : lv_has ls 1 [(0, .ref h0)] := hl
  refine z_q (fun Q hQ => ?_)
  refine lv_aload_n hx hb dSC_columns_0 rfl (lv_at hl 0 rfl) ?_
  refine va_get (D := (dC, dI)) (ci := 0) (v := .ref g) (C := RSC) (T := TSC) (N := 6) hx hb hz in_SC hown hK hP 0 rfl rfl 0 (by decide) (hz _ wd_150) (fun _ h9 => h9) rfl dSC_columns_1 ?_
  refine vp_callSi (W.runV (As := []) (rest := []) ⟨hx, hb, hml, hown, hz⟩ (c_GR_columnCount l dC dI g al ed 0 mo 1 0 0 0 0 ) (cwV 0 hz (z_gV wd_391 wd_392 wd_393 wd_30 wd_394) rfl rfl rfl (by decide +kernel) ⟨Nat.le_of_ble_eq_true rfl, Nat.le_of_ble_eq_true rfl⟩) (zp_preV (q0 := 1) (q := (RGR, TGR, 6)) hK hP rfl rfl [1, 2] rfl [] rfl z_true (fun _ _ _ => trivial)) rfl rfl hl.1 rfl (lv_room (Nat.le_of_ble_eq_true rfl)) dSC_columns_4 ⟨Nat.le_of_ble_eq_true rfl, Nat.le_of_ble_eq_true rfl⟩) (fun r1 h_r1 => ?_)
  have h_r1 : r1 = 0 := h_r1
  subst h_r1
  subst hQ
  exact zp_iret hx hb hr hlocks (rfl) dSC_columns_7

set_option maxHeartbeats 4000000 in
set_option maxRecDepth 100000 in
theorem c_SC_rows (l : Launch) (dC : Nat → ClassId) (dI : Nat → Nat → Nat) (h0 : Nat) (g : Nat) (wd : Nat) (hh : Nat) (al : Nat) (ed : Nat) (mo : Int32) : zp_M l ySC_rows wSC_rows ({ frames := 1, cells := 0, slots := 0, locals := 20 }) [.ref h0] (dC, dI) vwCl [(h0, .inr (0, [.ref g, .ref wd, .ref hh, .int 0, .int 0, .int 0])), (g, .inr (1, [.ref al, .int 1, .int 0, .int 0, .int 0, .int 0])), (al, .inr (2, [.ref ed, .int 0, .int mo]))] [] (fun _ => True) (fun r => r = 0) := by
  refine zp_head (cc := cSC_rows) (maxL := 1) (ret := (some .int)) (by decide +kernel) rfl (Nat.le_of_ble_eq_true rfl) ?_
  intro p e s m below meth c ls F hP hK hX hl
  obtain ⟨hx, hb, hml, hr, hlocks, hown, hts⟩ := F
  have hown : s.vm.findClass "SpannedCells" = some m.cls := hown
  have hz : ∀ w9 ∈ zT, w9.before [.ref h0].toArray s = true := fun w9 h => hts w9 (List.mem_cons_of_mem _ h)
  have hl : lv_has ls 1 [(0, .ref h0)] := hl
  refine z_q (fun Q hQ => ?_)
  refine lv_aload_n hx hb dSC_rows_0 rfl (lv_at hl 0 rfl) ?_
  refine va_get (D := (dC, dI)) (ci := 0) (v := .ref g) (C := RSC) (T := TSC) (N := 6) hx hb hz in_SC hown hK hP 0 rfl rfl 0 (by decide) (hz _ wd_150) (fun _ h9 => h9) rfl dSC_rows_1 ?_
  refine vp_callSi (W.runV (As := []) (rest := []) ⟨hx, hb, hml, hown, hz⟩ (c_GR_rowCount l dC dI g al ed 0 mo 1 0 0 0 0 ) (cwV 0 hz (z_gV wd_399 wd_400 wd_401 wd_30 wd_402) rfl rfl rfl (by decide +kernel) ⟨Nat.le_of_ble_eq_true rfl, Nat.le_of_ble_eq_true rfl⟩) (zp_preV (q0 := 1) (q := (RGR, TGR, 6)) hK hP rfl rfl [1, 2] rfl [] rfl z_true (fun _ _ _ => trivial)) rfl rfl hl.1 rfl (lv_room (Nat.le_of_ble_eq_true rfl)) dSC_rows_4 ⟨Nat.le_of_ble_eq_true rfl, Nat.le_of_ble_eq_true rfl⟩) (fun r1 h_r1 => ?_)
  have h_r1 : r1 = 0 := h_r1
  subst h_r1
  subst hQ
  exact zp_iret hx hb hr hlocks (rfl) dSC_rows_7

set_option maxHeartbeats 4000000 in
set_option maxRecDepth 100000 in
theorem c_SC_overlaps (l : Launch) (dC : Nat → ClassId) (dI : Nat → Nat → Nat) (h0 : Nat) (g : Nat) (wd : Nat) (hh : Nat) (al : Nat) (ed : Nat) (mo : Int32) : zp_M l ySC_overlaps wSC_overlaps ({ frames := 2, cells := 0, slots := 0, locals := 45 }) [.ref h0] (dC, dI) vwCl [(h0, .inr (0, [.ref g, .ref wd, .ref hh, .int 0, .int 0, .int 0])), (g, .inr (1, [.ref al, .int 1, .int 0, .int 0, .int 0, .int 0])), (al, .inr (2, [.ref ed, .int 0, .int mo]))] [] (fun _ => True) (fun r => r = 0) := by
  refine zp_head (cc := cSC_overlaps) (maxL := 1) (ret := (some .int)) (by decide +kernel) rfl (Nat.le_of_ble_eq_true rfl) ?_
  intro p e s m below meth c ls F hP hK hX hl
  obtain ⟨hx, hb, hml, hr, hlocks, hown, hts⟩ := F
  have hown : s.vm.findClass "SpannedCells" = some m.cls := hown
  have hz : ∀ w9 ∈ zT, w9.before [.ref h0].toArray s = true := fun w9 h => hts w9 (List.mem_cons_of_mem _ h)
  have hl : lv_has ls 1 [(0, .ref h0)] := hl
  refine z_q (fun Q hQ => ?_)
  refine lv_aload_n hx hb dSC_overlaps_0 rfl (lv_at hl 0 rfl) ?_
  refine va_get (D := (dC, dI)) (ci := 0) (v := .ref g) (C := RSC) (T := TSC) (N := 6) hx hb hz in_SC hown hK hP 0 rfl rfl 0 (by decide) (hz _ wd_150) (fun _ h9 => h9) rfl dSC_overlaps_1 ?_
  refine vp_callSi (W.runV (As := []) (rest := []) ⟨hx, hb, hml, hown, hz⟩ (c_GR_countOverlaps l dC dI g al ed mo ) (cwV 0 hz (z_gV wd_412 wd_413 wd_414 wd_30 wd_415) rfl rfl rfl (by decide +kernel) ⟨Nat.le_of_ble_eq_true rfl, Nat.le_of_ble_eq_true rfl⟩) (zp_preV (q0 := 1) (q := (RGR, TGR, 6)) hK hP rfl rfl [1, 2] rfl [] rfl z_true (fun _ _ _ => trivial)) rfl rfl hl.1 rfl (lv_room (Nat.le_of_ble_eq_true rfl)) dSC_overlaps_4 ⟨Nat.le_of_ble_eq_true rfl, Nat.le_of_ble_eq_true rfl⟩) (fun r1 h_r1 => ?_)
  have h_r1 : r1 = 0 := h_r1
  subst h_r1
  subst hQ
  exact zp_iret hx hb hr hlocks (rfl) dSC_overlaps_7

set_option maxHeartbeats 4000000 in
set_option maxRecDepth 100000 in
theorem c_SC_empties (l : Launch) (dC : Nat → ClassId) (dI : Nat → Nat → Nat) (h0 : Nat) (g : Nat) (wd : Nat) (hh : Nat) (al : Nat) (ed : Nat) (mo : Int32) : zp_M l ySC_empties wSC_empties ({ frames := 1, cells := 0, slots := 0, locals := 22 }) [.ref h0] (dC, dI) vwCl [(h0, .inr (0, [.ref g, .ref wd, .ref hh, .int 0, .int 0, .int 0])), (g, .inr (1, [.ref al, .int 1, .int 0, .int 0, .int 0, .int 0])), (al, .inr (2, [.ref ed, .int 0, .int mo]))] [] (fun _ => True) (fun r => r = 0) := by
  refine zp_head (cc := cSC_empties) (maxL := 1) (ret := (some .int)) (by decide +kernel) rfl (Nat.le_of_ble_eq_true rfl) ?_
  intro p e s m below meth c ls F hP hK hX hl
  obtain ⟨hx, hb, hml, hr, hlocks, hown, hts⟩ := F
  have hown : s.vm.findClass "SpannedCells" = some m.cls := hown
  have hz : ∀ w9 ∈ zT, w9.before [.ref h0].toArray s = true := fun w9 h => hts w9 (List.mem_cons_of_mem _ h)
  have hl : lv_has ls 1 [(0, .ref h0)] := hl
  refine z_q (fun Q hQ => ?_)
  refine lv_aload_n hx hb dSC_empties_0 rfl (lv_at hl 0 rfl) ?_
  refine va_get (D := (dC, dI)) (ci := 0) (v := .ref g) (C := RSC) (T := TSC) (N := 6) hx hb hz in_SC hown hK hP 0 rfl rfl 0 (by decide) (hz _ wd_150) (fun _ h9 => h9) rfl dSC_empties_1 ?_
  refine vp_callSi (W.runV (As := []) (rest := []) ⟨hx, hb, hml, hown, hz⟩ (c_GR_countEmptyColumns l dC dI g al ed mo ) (cwV 0 hz (z_gV wd_424 wd_425 wd_426 wd_30 wd_427) rfl rfl rfl (by decide +kernel) ⟨Nat.le_of_ble_eq_true rfl, Nat.le_of_ble_eq_true rfl⟩) (zp_preV (q0 := 1) (q := (RGR, TGR, 6)) hK hP rfl rfl [1, 2] rfl [] rfl z_true (fun _ _ _ => trivial)) rfl rfl hl.1 rfl (lv_room (Nat.le_of_ble_eq_true rfl)) dSC_empties_4 ⟨Nat.le_of_ble_eq_true rfl, Nat.le_of_ble_eq_true rfl⟩) (fun r1 h_r1 => ?_)
  have h_r1 : r1 = 0 := h_r1
  subst h_r1
  refine lv_bipush (v := 100) hx hb dSC_empties_7 (by decide) ?_
  refine lv_aload_n hx hb dSC_empties_9 rfl (lv_at hl 0 rfl) ?_
  refine va_get (D := (dC, dI)) (ci := 0) (v := .ref g) (C := RSC) (T := TSC) (N := 6) hx hb hz in_SC hown hK hP 0 rfl rfl 0 (by decide) (hz _ wd_150) (fun _ h9 => h9) rfl dSC_empties_10 ?_
  refine vp_callSi (W.runV (As := []) (rest := [.int 100, .int 0]) ⟨hx, hb, hml, hown, hz⟩ (c_GR_countEmptyRows l dC dI g al ed mo ) (cwV 0 hz (z_gV wd_432 wd_433 wd_434 wd_30 wd_435) rfl rfl rfl (by decide +kernel) ⟨Nat.le_of_ble_eq_true rfl, Nat.le_of_ble_eq_true rfl⟩) (zp_preV (q0 := 1) (q := (RGR, TGR, 6)) hK hP rfl rfl [1, 2] rfl [] rfl z_true (fun _ _ _ => trivial)) rfl rfl hl.1 rfl (lv_room (Nat.le_of_ble_eq_true rfl)) dSC_empties_13 ⟨Nat.le_of_ble_eq_true rfl, Nat.le_of_ble_eq_true rfl⟩) (fun r2 h_r2 => ?_)
  have h_r2 : r2 = 0 := h_r2
  subst h_r2
  refine lv_imul hx hb dSC_empties_16 ?_
  refine lv_topi (fun x3 e4 => ?_)
  have e4 : x3 = 0 := e4.trans (by decide)
  subst e4
  refine lv_iadd hx hb dSC_empties_17 ?_
  refine lv_topi (fun x5 e6 => ?_)
  have e6 : x5 = 0 := e6.trans (by decide)
  subst e6
  subst hQ
  exact zp_iret hx hb hr hlocks (rfl) dSC_empties_18

set_option maxHeartbeats 4000000 in
set_option maxRecDepth 100000 in
theorem c_SC_slot (l : Launch) (dC : Nat → ClassId) (dI : Nat → Nat → Nat) (h0 : Nat) (g : Nat) (wd : Nat) (hh : Nat) (al : Nat) (ed : Nat) (mo : Int32) (x : Int32) (y : Int32) : zp_M l ySC_slot wSC_slot ({ frames := 2, cells := 0, slots := 0, locals := 43 }) [.ref h0, .int x, .int y] (dC, dI) vwCl [(h0, .inr (0, [.ref g, .ref wd, .ref hh, .int 0, .int 0, .int 0])), (g, .inr (1, [.ref al, .int 1, .int 0, .int 0, .int 0, .int 0])), (al, .inr (2, [.ref ed, .int 0, .int mo]))] [] (fun _ => True) (fun r => r = (-1)) := by
  refine zp_head (cc := cSC_slot) (maxL := 3) (ret := (some .int)) (by decide +kernel) rfl (Nat.le_of_ble_eq_true rfl) ?_
  intro p e s m below meth c ls F hP hK hX hl
  obtain ⟨hx, hb, hml, hr, hlocks, hown, hts⟩ := F
  have hown : s.vm.findClass "SpannedCells" = some m.cls := hown
  have hz : ∀ w9 ∈ zT, w9.before [.ref h0, .int x, .int y].toArray s = true := fun w9 h => hts w9 (List.mem_cons_of_mem _ h)
  have hl : lv_has ls 3 [(0, .ref h0), (1, .int x), (2, .int y)] := hl
  refine z_q (fun Q hQ => ?_)
  refine lv_aload_n hx hb dSC_slot_0 rfl (lv_at hl 0 rfl) ?_
  refine va_get (D := (dC, dI)) (ci := 0) (v := .ref g) (C := RSC) (T := TSC) (N := 6) hx hb hz in_SC hown hK hP 0 rfl rfl 0 (by decide) (hz _ wd_150) (fun _ h9 => h9) rfl dSC_slot_1 ?_
  refine lv_iload_n hx hb dSC_slot_4 rfl (lv_at hl 1 rfl) ?_
  refine lv_iload_n hx hb dSC_slot_5 rfl (lv_at hl 2 rfl) ?_
  refine vp_callSi (W.runV (As := [.int x, .int y]) (rest := []) ⟨hx, hb, hml, hown, hz⟩ (c_GR_ownerOf l dC dI g al ed mo x y ) (cwV 2 hz (z_gV wd_407 wd_231 wd_232 wd_30 wd_233) rfl rfl rfl (by decide +kernel) ⟨Nat.le_of_ble_eq_true rfl, Nat.le_of_ble_eq_true rfl⟩) (zp_preV (q0 := 1) (q := (RGR, TGR, 6)) hK hP rfl rfl [1, 2] rfl [] rfl z_true (fun _ _ _ => trivial)) rfl rfl hl.1 rfl (lv_room (Nat.le_of_ble_eq_true rfl)) dSC_slot_6 ⟨Nat.le_of_ble_eq_true rfl, Nat.le_of_ble_eq_true rfl⟩) (fun r1 h_r1 => ?_)
  have h_r1 : r1 = (-1) := h_r1
  subst h_r1
  subst hQ
  exact zp_iret hx hb hr hlocks (rfl) dSC_slot_9

set_option maxHeartbeats 4000000 in
set_option maxRecDepth 100000 in
theorem c_SC_span (l : Launch) (dC : Nat → ClassId) (dI : Nat → Nat → Nat) (h0 : Nat) (g : Nat) (wd : Nat) (hh : Nat) (al : Nat) (ed : Nat) (mo : Int32) (k : Int32) : zp_M l ySC_span wSC_span ({ frames := 2, cells := 0, slots := 0, locals := 41 }) [.ref h0, .int k] (dC, dI) vwCl [(h0, .inr (0, [.ref g, .ref wd, .ref hh, .int 0, .int 0, .int 0])), (g, .inr (1, [.ref al, .int 1, .int 0, .int 0, .int 0, .int 0])), (al, .inr (2, [.ref ed, .int 0, .int mo]))] [] (fun _ => True) (fun r => r = (-1)) := by
  refine zp_head (cc := cSC_span) (maxL := 3) (ret := (some .int)) (by decide +kernel) rfl (Nat.le_of_ble_eq_true rfl) ?_
  intro p e s m below meth c ls F hP hK hX hl
  obtain ⟨hx, hb, hml, hr, hlocks, hown, hts⟩ := F
  have hown : s.vm.findClass "SpannedCells" = some m.cls := hown
  have hz : ∀ w9 ∈ zT, w9.before [.ref h0, .int k].toArray s = true := fun w9 h => hts w9 (List.mem_cons_of_mem _ h)
  have hl : lv_has ls 3 [(0, .ref h0), (1, .int k)] := hl
  refine z_q (fun Q hQ => ?_)
  refine lv_aload_n hx hb dSC_span_0 rfl (lv_at hl 0 rfl) ?_
  refine va_get (D := (dC, dI)) (ci := 0) (v := .ref g) (C := RSC) (T := TSC) (N := 6) hx hb hz in_SC hown hK hP 0 rfl rfl 0 (by decide) (hz _ wd_150) (fun _ h9 => h9) rfl dSC_span_1 ?_
  refine lv_iload_n hx hb dSC_span_4 rfl (lv_at hl 1 rfl) ?_
  refine vp_callSi (W.runV (As := [.int k]) (rest := []) ⟨hx, hb, hml, hown, hz⟩ (c_GR_hasCell l dC dI g al ed mo k ) (cwV 1 hz (z_gV wd_355 wd_356 wd_357 wd_30 wd_358) rfl rfl rfl (by decide +kernel) ⟨Nat.le_of_ble_eq_true rfl, Nat.le_of_ble_eq_true rfl⟩) (zp_preV (q0 := 1) (q := (RGR, TGR, 6)) hK hP rfl rfl [1, 2] rfl [] rfl z_true (fun _ _ _ => trivial)) rfl rfl hl.1 rfl (lv_room (Nat.le_of_ble_eq_true rfl)) dSC_span_5 ⟨Nat.le_of_ble_eq_true rfl, Nat.le_of_ble_eq_true rfl⟩) (fun r1 h_r1 => ?_)
  have h_r1 : r1 = 0 := h_r1
  subst h_r1
  refine lv_if_ne (tgt := 13) hx hb dSC_span_8 rfl (fun h => absurd (by decide) h) (fun _ => ?_)
  refine lv_iconst (v := (-1)) hx hb dSC_span_11 (by decide) ?_
  subst hQ
  exact zp_iret hx hb hr hlocks (rfl) dSC_span_12

set_option maxHeartbeats 4000000 in
set_option maxRecDepth 100000 in
theorem c_SC_wide (l : Launch) (dC : Nat → ClassId) (dI : Nat → Nat → Nat) (h0 : Nat) (g : Nat) (wd : Nat) (hh : Nat) (al : Nat) (ed : Nat) (mo : Int32) (x : Int32) (w : Int32) : zp_M l ySC_wide wSC_wide ({ frames := 1, cells := 0, slots := 0, locals := 22 }) [.ref h0, .int x, .int w] (dC, dI) vwCl [(h0, .inr (0, [.ref g, .ref wd, .ref hh, .int 0, .int 0, .int 0])), (g, .inr (1, [.ref al, .int 1, .int 0, .int 0, .int 0, .int 0])), (al, .inr (2, [.ref ed, .int 0, .int mo]))] [] (fun _ => True) (fun r => r = (-1)) := by
  refine zp_head (cc := cSC_wide) (maxL := 3) (ret := (some .int)) (by decide +kernel) rfl (Nat.le_of_ble_eq_true rfl) ?_
  intro p e s m below meth c ls F hP hK hX hl
  obtain ⟨hx, hb, hml, hr, hlocks, hown, hts⟩ := F
  have hown : s.vm.findClass "SpannedCells" = some m.cls := hown
  have hz : ∀ w9 ∈ zT, w9.before [.ref h0, .int x, .int w].toArray s = true := fun w9 h => hts w9 (List.mem_cons_of_mem _ h)
  have hl : lv_has ls 3 [(0, .ref h0), (1, .int x), (2, .int w)] := hl
  refine z_q (fun Q hQ => ?_)
  refine lv_iload_n hx hb dSC_wide_0 rfl (lv_at hl 1 rfl) ?_
  refine lv_iconst (v := 0) hx hb dSC_wide_1 (by decide) ?_
  refine lv_aload_n hx hb dSC_wide_2 rfl (lv_at hl 0 rfl) ?_
  refine va_get (D := (dC, dI)) (ci := 0) (v := .ref g) (C := RSC) (T := TSC) (N := 6) hx hb hz in_SC hown hK hP 0 rfl rfl 0 (by decide) (hz _ wd_150) (fun _ h9 => h9) rfl dSC_wide_3 ?_
  refine vp_callSi (W.runV (As := []) (rest := [.int 0, .int x]) ⟨hx, hb, hml, hown, hz⟩ (c_GR_columnCount l dC dI g al ed 0 mo 1 0 0 0 0 ) (cwV 0 hz (z_gV wd_391 wd_392 wd_393 wd_30 wd_394) rfl rfl rfl (by decide +kernel) ⟨Nat.le_of_ble_eq_true rfl, Nat.le_of_ble_eq_true rfl⟩) (zp_preV (q0 := 1) (q := (RGR, TGR, 6)) hK hP rfl rfl [1, 2] rfl [] rfl z_true (fun _ _ _ => trivial)) rfl rfl hl.1 rfl (lv_room (Nat.le_of_ble_eq_true rfl)) dSC_wide_6 ⟨Nat.le_of_ble_eq_true rfl, Nat.le_of_ble_eq_true rfl⟩) (fun r1 h_r1 => ?_)
  have h_r1 : r1 = 0 := h_r1
  subst h_r1
  refine lv_iconst (v := 1) hx hb dSC_wide_9 (by decide) ?_
  refine lv_isub hx hb dSC_wide_10 ?_
  refine lv_topi (fun x2 e3 => ?_)
  have e3 : x2 = (-1) := e3.trans (by decide)
  subst e3
  refine vp_callSi (W.runS (As := [.int x, .int 0, .int (-1)]) (rest := []) ⟨hx, hb, hml, hown, hz⟩ (c_SC_within l dC dI x 0 (-1) ) (va_cwS 3 hz (z_gS wd_219 wd_220 wd_29 wd_221) rfl rfl rfl (by decide +kernel) ⟨Nat.le_of_ble_eq_true rfl, Nat.le_of_ble_eq_true rfl⟩) (zp_preS hK hP [] rfl [] rfl z_true (fun _ _ _ => trivial)) rfl rfl hl.1 rfl (lv_room (Nat.le_of_ble_eq_true rfl)) dSC_wide_11 ⟨Nat.le_of_ble_eq_true rfl, Nat.le_of_ble_eq_true rfl⟩) (fun r4 h_r4 => ?_)
  have h_r4 : r4 = 0 := (z_within_none h_r4)
  subst h_r4
  refine lv_if_ne (tgt := 19) hx hb dSC_wide_14 rfl (fun h => absurd (by decide) h) (fun _ => ?_)
  refine lv_iconst (v := (-1)) hx hb dSC_wide_17 (by decide) ?_
  subst hQ
  exact zp_iret hx hb hr hlocks (rfl) dSC_wide_18

set_option maxHeartbeats 4000000 in
set_option maxRecDepth 100000 in
theorem c_SC_high (l : Launch) (dC : Nat → ClassId) (dI : Nat → Nat → Nat) (h0 : Nat) (g : Nat) (wd : Nat) (hh : Nat) (al : Nat) (ed : Nat) (mo : Int32) (y : Int32) : zp_M l ySC_high wSC_high ({ frames := 1, cells := 0, slots := 0, locals := 22 }) [.ref h0, .int y] (dC, dI) vwCl [(h0, .inr (0, [.ref g, .ref wd, .ref hh, .int 0, .int 0, .int 0])), (g, .inr (1, [.ref al, .int 1, .int 0, .int 0, .int 0, .int 0])), (al, .inr (2, [.ref ed, .int 0, .int mo]))] [] (fun _ => True) (fun r => r = (-1)) := by
  refine zp_head (cc := cSC_high) (maxL := 2) (ret := (some .int)) (by decide +kernel) rfl (Nat.le_of_ble_eq_true rfl) ?_
  intro p e s m below meth c ls F hP hK hX hl
  obtain ⟨hx, hb, hml, hr, hlocks, hown, hts⟩ := F
  have hown : s.vm.findClass "SpannedCells" = some m.cls := hown
  have hz : ∀ w9 ∈ zT, w9.before [.ref h0, .int y].toArray s = true := fun w9 h => hts w9 (List.mem_cons_of_mem _ h)
  have hl : lv_has ls 2 [(0, .ref h0), (1, .int y)] := hl
  refine z_q (fun Q hQ => ?_)
  refine lv_iload_n hx hb dSC_high_0 rfl (lv_at hl 1 rfl) ?_
  refine lv_iconst (v := 0) hx hb dSC_high_1 (by decide) ?_
  refine lv_aload_n hx hb dSC_high_2 rfl (lv_at hl 0 rfl) ?_
  refine va_get (D := (dC, dI)) (ci := 0) (v := .ref g) (C := RSC) (T := TSC) (N := 6) hx hb hz in_SC hown hK hP 0 rfl rfl 0 (by decide) (hz _ wd_150) (fun _ h9 => h9) rfl dSC_high_3 ?_
  refine vp_callSi (W.runV (As := []) (rest := [.int 0, .int y]) ⟨hx, hb, hml, hown, hz⟩ (c_GR_rowCount l dC dI g al ed 0 mo 1 0 0 0 0 ) (cwV 0 hz (z_gV wd_399 wd_400 wd_401 wd_30 wd_402) rfl rfl rfl (by decide +kernel) ⟨Nat.le_of_ble_eq_true rfl, Nat.le_of_ble_eq_true rfl⟩) (zp_preV (q0 := 1) (q := (RGR, TGR, 6)) hK hP rfl rfl [1, 2] rfl [] rfl z_true (fun _ _ _ => trivial)) rfl rfl hl.1 rfl (lv_room (Nat.le_of_ble_eq_true rfl)) dSC_high_6 ⟨Nat.le_of_ble_eq_true rfl, Nat.le_of_ble_eq_true rfl⟩) (fun r1 h_r1 => ?_)
  have h_r1 : r1 = 0 := h_r1
  subst h_r1
  refine lv_iconst (v := 1) hx hb dSC_high_9 (by decide) ?_
  refine lv_isub hx hb dSC_high_10 ?_
  refine lv_topi (fun x2 e3 => ?_)
  have e3 : x2 = (-1) := e3.trans (by decide)
  subst e3
  refine vp_callSi (W.runS (As := [.int y, .int 0, .int (-1)]) (rest := []) ⟨hx, hb, hml, hown, hz⟩ (c_SC_within l dC dI y 0 (-1) ) (va_cwS 3 hz (z_gS wd_219 wd_220 wd_29 wd_221) rfl rfl rfl (by decide +kernel) ⟨Nat.le_of_ble_eq_true rfl, Nat.le_of_ble_eq_true rfl⟩) (zp_preS hK hP [] rfl [] rfl z_true (fun _ _ _ => trivial)) rfl rfl hl.1 rfl (lv_room (Nat.le_of_ble_eq_true rfl)) dSC_high_11 ⟨Nat.le_of_ble_eq_true rfl, Nat.le_of_ble_eq_true rfl⟩) (fun r4 h_r4 => ?_)
  have h_r4 : r4 = 0 := (z_within_none h_r4)
  subst h_r4
  refine lv_if_ne (tgt := 19) hx hb dSC_high_14 rfl (fun h => absurd (by decide) h) (fun _ => ?_)
  refine lv_iconst (v := (-1)) hx hb dSC_high_17 (by decide) ?_
  subst hQ
  exact zp_iret hx hb hr hlocks (rfl) dSC_high_18

set_option maxHeartbeats 4000000 in
set_option maxRecDepth 100000 in
theorem c_SC_place (l : Launch) (dC : Nat → ClassId) (dI : Nat → Nat → Nat) (h0 : Nat) (g : Nat) (wd : Nat) (hh : Nat) (al : Nat) (ed : Nat) (mo : Int32) (k : Int32) (w : Int32) : zp_M l ySC_place wSC_place ({ frames := 2, cells := 0, slots := 0, locals := 41 }) [.ref h0, .int k, .int w] (dC, dI) vwCl [(h0, .inr (0, [.ref g, .ref wd, .ref hh, .int 0, .int 0, .int 0])), (g, .inr (1, [.ref al, .int 1, .int 0, .int 0, .int 0, .int 0])), (al, .inr (2, [.ref ed, .int 0, .int mo]))] [] (fun _ => True) (fun r => r = (-1)) := by
  refine zp_head (cc := cSC_place) (maxL := 4) (ret := (some .int)) (by decide +kernel) rfl (Nat.le_of_ble_eq_true rfl) ?_
  intro p e s m below meth c ls F hP hK hX hl
  obtain ⟨hx, hb, hml, hr, hlocks, hown, hts⟩ := F
  have hown : s.vm.findClass "SpannedCells" = some m.cls := hown
  have hz : ∀ w9 ∈ zT, w9.before [.ref h0, .int k, .int w].toArray s = true := fun w9 h => hts w9 (List.mem_cons_of_mem _ h)
  have hl : lv_has ls 4 [(0, .ref h0), (1, .int k), (2, .int w)] := hl
  refine z_q (fun Q hQ => ?_)
  refine lv_aload_n hx hb dSC_place_0 rfl (lv_at hl 0 rfl) ?_
  refine va_get (D := (dC, dI)) (ci := 0) (v := .ref g) (C := RSC) (T := TSC) (N := 6) hx hb hz in_SC hown hK hP 0 rfl rfl 0 (by decide) (hz _ wd_150) (fun _ h9 => h9) rfl dSC_place_1 ?_
  refine lv_iload_n hx hb dSC_place_4 rfl (lv_at hl 1 rfl) ?_
  refine vp_callSi (W.runV (As := [.int k]) (rest := []) ⟨hx, hb, hml, hown, hz⟩ (c_GR_hasCell l dC dI g al ed mo k ) (cwV 1 hz (z_gV wd_355 wd_356 wd_357 wd_30 wd_358) rfl rfl rfl (by decide +kernel) ⟨Nat.le_of_ble_eq_true rfl, Nat.le_of_ble_eq_true rfl⟩) (zp_preV (q0 := 1) (q := (RGR, TGR, 6)) hK hP rfl rfl [1, 2] rfl [] rfl z_true (fun _ _ _ => trivial)) rfl rfl hl.1 rfl (lv_room (Nat.le_of_ble_eq_true rfl)) dSC_place_5 ⟨Nat.le_of_ble_eq_true rfl, Nat.le_of_ble_eq_true rfl⟩) (fun r1 h_r1 => ?_)
  have h_r1 : r1 = 0 := h_r1
  subst h_r1
  refine lv_if_ne (tgt := 13) hx hb dSC_place_8 rfl (fun h => absurd (by decide) h) (fun _ => ?_)
  refine lv_iconst (v := (-1)) hx hb dSC_place_11 (by decide) ?_
  subst hQ
  exact zp_iret hx hb hr hlocks (rfl) dSC_place_12

set_option maxHeartbeats 4000000 in
set_option maxRecDepth 100000 in
theorem c_SC_size (l : Launch) (dC : Nat → ClassId) (dI : Nat → Nat → Nat) (h0 : Nat) (g : Nat) (wd : Nat) (hh : Nat) (al : Nat) (ed : Nat) (mo : Int32) (f : Int32) : zp_M l ySC_size wSC_size ({ frames := 1, cells := 0, slots := 0, locals := 20 }) [.ref h0, .int f] (dC, dI) vwCl [(h0, .inr (0, [.ref g, .ref wd, .ref hh, .int 0, .int 0, .int 0])), (g, .inr (1, [.ref al, .int 1, .int 0, .int 0, .int 0, .int 0])), (al, .inr (2, [.ref ed, .int 0, .int mo]))] [] (fun _ => True) (fun r => r = 0) := by
  refine zp_head (cc := cSC_size) (maxL := 2) (ret := (some .int)) (by decide +kernel) rfl (Nat.le_of_ble_eq_true rfl) ?_
  intro p e s m below meth c ls F hP hK hX hl
  obtain ⟨hx, hb, hml, hr, hlocks, hown, hts⟩ := F
  have hown : s.vm.findClass "SpannedCells" = some m.cls := hown
  have hz : ∀ w9 ∈ zT, w9.before [.ref h0, .int f].toArray s = true := fun w9 h => hts w9 (List.mem_cons_of_mem _ h)
  have hl : lv_has ls 2 [(0, .ref h0), (1, .int f)] := hl
  refine z_q (fun Q hQ => ?_)
  refine lv_aload_n hx hb dSC_size_0 rfl (lv_at hl 0 rfl) ?_
  refine va_get (D := (dC, dI)) (ci := 0) (v := .ref g) (C := RSC) (T := TSC) (N := 6) hx hb hz in_SC hown hK hP 0 rfl rfl 0 (by decide) (hz _ wd_150) (fun _ h9 => h9) rfl dSC_size_1 ?_
  refine vp_callSi (W.runV (As := []) (rest := []) ⟨hx, hb, hml, hown, hz⟩ (c_GR_columnCount l dC dI g al ed 0 mo 1 0 0 0 0 ) (cwV 0 hz (z_gV wd_391 wd_392 wd_393 wd_30 wd_394) rfl rfl rfl (by decide +kernel) ⟨Nat.le_of_ble_eq_true rfl, Nat.le_of_ble_eq_true rfl⟩) (zp_preV (q0 := 1) (q := (RGR, TGR, 6)) hK hP rfl rfl [1, 2] rfl [] rfl z_true (fun _ _ _ => trivial)) rfl rfl hl.1 rfl (lv_room (Nat.le_of_ble_eq_true rfl)) dSC_size_4 ⟨Nat.le_of_ble_eq_true rfl, Nat.le_of_ble_eq_true rfl⟩) (fun r1 h_r1 => ?_)
  have h_r1 : r1 = 0 := h_r1
  subst h_r1
  refine lv_if_eq (tgt := 20) hx hb dSC_size_7 rfl (fun _ => ?_) (fun h => absurd (by decide) h)
  refine lv_iconst (v := 0) hx hb dSC_size_20 (by decide) ?_
  subst hQ
  exact zp_iret hx hb hr hlocks (rfl) dSC_size_21

set_option maxHeartbeats 4000000 in
set_option maxRecDepth 100000 in
theorem c_SC_edge (l : Launch) (dC : Nat → ClassId) (dI : Nat → Nat → Nat) (h0 : Nat) (g : Nat) (wd : Nat) (hh : Nat) (al : Nat) (ed : Nat) (mo : Int32) (x : Int32) (y : Int32) (f : Int32) : zp_M l ySC_edge wSC_edge ({ frames := 2, cells := 0, slots := 0, locals := 44 }) [.ref h0, .int x, .int y, .int f] (dC, dI) vwCl [(h0, .inr (0, [.ref g, .ref wd, .ref hh, .int 0, .int 0, .int 0])), (g, .inr (1, [.ref al, .int 1, .int 0, .int 0, .int 0, .int 0])), (al, .inr (2, [.ref ed, .int 0, .int mo]))] [] zN (fun r => r = (-1)) := by
  refine zp_head (cc := cSC_edge) (maxL := 5) (ret := (some .int)) (by decide +kernel) rfl (Nat.le_of_ble_eq_true rfl) ?_
  intro p e s m below meth c ls F hP hK hX hl
  obtain ⟨hx, hb, hml, hr, hlocks, hown, hts⟩ := F
  have hown : s.vm.findClass "SpannedCells" = some m.cls := hown
  have hz : ∀ w9 ∈ zT, w9.before [.ref h0, .int x, .int y, .int f].toArray s = true := fun w9 h => hts w9 (List.mem_cons_of_mem _ h)
  have hl : lv_has ls 5 [(0, .ref h0), (1, .int x), (2, .int y), (3, .int f)] := hl
  have hN := hX
  refine z_q (fun Q hQ => ?_)
  refine lv_aload_n hx hb dSC_edge_0 rfl (lv_at hl 0 rfl) ?_
  refine va_get (D := (dC, dI)) (ci := 0) (v := .ref g) (C := RSC) (T := TSC) (N := 6) hx hb hz in_SC hown hK hP 0 rfl rfl 0 (by decide) (hz _ wd_150) (fun _ h9 => h9) rfl dSC_edge_1 ?_
  refine lv_iload_n hx hb dSC_edge_4 rfl (lv_at hl 1 rfl) ?_
  refine lv_iload_n hx hb dSC_edge_5 rfl (lv_at hl 2 rfl) ?_
  refine vp_callSi (W.runV (As := [.int x, .int y]) (rest := []) ⟨hx, hb, hml, hown, hz⟩ (c_GR_hasSlot l dC dI g al ed mo x y ) (cwV 2 hz (z_gV wd_563 wd_564 wd_565 wd_30 wd_566) rfl rfl rfl (by decide +kernel) ⟨Nat.le_of_ble_eq_true rfl, Nat.le_of_ble_eq_true rfl⟩) (zp_preV (q0 := 1) (q := (RGR, TGR, 6)) hK hP rfl rfl [1, 2] rfl [] rfl zN_blind (zN_call hX)) rfl rfl hl.1 rfl (lv_room (Nat.le_of_ble_eq_true rfl)) dSC_edge_6 ⟨Nat.le_of_ble_eq_true rfl, Nat.le_of_ble_eq_true rfl⟩) (fun r1 h_r1 => ?_)
  have h_r1 : r1 = 0 := h_r1
  subst h_r1
  refine lv_if_ne (tgt := 14) hx hb dSC_edge_9 rfl (fun h => absurd (by decide) h) (fun _ => ?_)
  refine lv_iconst (v := (-1)) hx hb dSC_edge_12 (by decide) ?_
  subst hQ
  exact zp_iret hx hb hr hlocks (rfl) dSC_edge_13

set_option maxHeartbeats 4000000 in
set_option maxRecDepth 100000 in
theorem c_SC_border (l : Launch) (dC : Nat → ClassId) (dI : Nat → Nat → Nat) (h0 : Nat) (g : Nat) (wd : Nat) (hh : Nat) (al : Nat) (ed : Nat) (mo : Int32) (k : Int32) (t : Int32) (w : Int32) : zp_M l ySC_border wSC_border ({ frames := 2, cells := 0, slots := 0, locals := 41 }) [.ref h0, .int k, .int t, .int w] (dC, dI) vwCl [(h0, .inr (0, [.ref g, .ref wd, .ref hh, .int 0, .int 0, .int 0])), (g, .inr (1, [.ref al, .int 1, .int 0, .int 0, .int 0, .int 0])), (al, .inr (2, [.ref ed, .int 0, .int mo]))] [] (fun _ => True) (fun r => r = 0) := by
  refine zp_head (cc := cSC_border) (maxL := 4) (ret := (some .boolean)) (by decide +kernel) rfl (Nat.le_of_ble_eq_true rfl) ?_
  intro p e s m below meth c ls F hP hK hX hl
  obtain ⟨hx, hb, hml, hr, hlocks, hown, hts⟩ := F
  have hown : s.vm.findClass "SpannedCells" = some m.cls := hown
  have hz : ∀ w9 ∈ zT, w9.before [.ref h0, .int k, .int t, .int w].toArray s = true := fun w9 h => hts w9 (List.mem_cons_of_mem _ h)
  have hl : lv_has ls 4 [(0, .ref h0), (1, .int k), (2, .int t), (3, .int w)] := hl
  refine z_q (fun Q hQ => ?_)
  refine lv_aload_n hx hb dSC_border_0 rfl (lv_at hl 0 rfl) ?_
  refine va_get (D := (dC, dI)) (ci := 0) (v := .ref g) (C := RSC) (T := TSC) (N := 6) hx hb hz in_SC hown hK hP 0 rfl rfl 0 (by decide) (hz _ wd_150) (fun _ h9 => h9) rfl dSC_border_1 ?_
  refine lv_iload_n hx hb dSC_border_4 rfl (lv_at hl 1 rfl) ?_
  refine vp_callSi (W.runV (As := [.int k]) (rest := []) ⟨hx, hb, hml, hown, hz⟩ (c_GR_hasCell l dC dI g al ed mo k ) (cwV 1 hz (z_gV wd_355 wd_356 wd_357 wd_30 wd_358) rfl rfl rfl (by decide +kernel) ⟨Nat.le_of_ble_eq_true rfl, Nat.le_of_ble_eq_true rfl⟩) (zp_preV (q0 := 1) (q := (RGR, TGR, 6)) hK hP rfl rfl [1, 2] rfl [] rfl z_true (fun _ _ _ => trivial)) rfl rfl hl.1 rfl (lv_room (Nat.le_of_ble_eq_true rfl)) dSC_border_5 ⟨Nat.le_of_ble_eq_true rfl, Nat.le_of_ble_eq_true rfl⟩) (fun r1 h_r1 => ?_)
  have h_r1 : r1 = 0 := h_r1
  subst h_r1
  refine lv_if_eq (tgt := 30) hx hb dSC_border_8 rfl (fun _ => ?_) (fun h => absurd (by decide) h)
  refine lv_iconst (v := 0) hx hb dSC_border_30 (by decide) ?_
  subst hQ
  exact zp_zret hx hb hr hlocks (Or.inl rfl) (rfl) dSC_border_31

set_option maxHeartbeats 4000000 in
set_option maxRecDepth 100000 in
theorem c_SC_cell (l : Launch) (dC : Nat → ClassId) (dI : Nat → Nat → Nat) (h0 : Nat) (g : Nat) (wd : Nat) (hh : Nat) (al : Nat) (ed : Nat) (mo : Int32) (a : Int32) (b : Int32) (c1 : Int32) (d : Int32) (e1 : Int32) : zp_M l ySC_cell wSC_cell ({ frames := 1, cells := 0, slots := 0, locals := 27 }) [.ref h0, .int a, .int b, .int c1, .int d, .int e1] (dC, dI) vwCl [(h0, .inr (0, [.ref g, .ref wd, .ref hh, .int 0, .int 0, .int 0])), (g, .inr (1, [.ref al, .int 1, .int 0, .int 0, .int 0, .int 0])), (al, .inr (2, [.ref ed, .int 0, .int mo]))] [] (fun _ => True) (fun r => r = (-1)) := by
  refine zp_head (cc := cSC_cell) (maxL := 9) (ret := (some .int)) (by decide +kernel) rfl (Nat.le_of_ble_eq_true rfl) ?_
  intro p e s m below meth c ls F hP hK hX hl
  obtain ⟨hx, hb, hml, hr, hlocks, hown, hts⟩ := F
  have hown : s.vm.findClass "SpannedCells" = some m.cls := hown
  have hz : ∀ w9 ∈ zT, w9.before [.ref h0, .int a, .int b, .int c1, .int d, .int e1].toArray s = true := fun w9 h => hts w9 (List.mem_cons_of_mem _ h)
  have hl : lv_has ls 9 [(0, .ref h0), (1, .int a), (2, .int b), (3, .int c1), (4, .int d), (5, .int e1)] := hl
  refine z_q (fun Q hQ => ?_)
  refine z_join (fun v1 : Int32 => True) (fun v1 => W p l e ({ frames := 1, cells := 0, slots := 0, locals := 27 }) s m [.ref h0, .int a, .int b, .int c1, .int d, .int e1].toArray below meth c s.heap [] 0 0 Q (F0 m 25 ls (.int v1 :: []))) (fun v1 hv1 => ?_) (fun J25 => ?_)
  · refine lv_istore hx hb dSC_cell_25 hl (Nat.le_of_ble_eq_true rfl) rfl (fun ls hl => ?_)
    have hl : lv_has ls 9 [(6, .int v1), (0, .ref h0), (1, .int a), (2, .int b), (3, .int c1), (4, .int d), (5, .int e1)] := hl
    refine z_join (fun v2 : Int32 => True) (fun v2 => W p l e ({ frames := 1, cells := 0, slots := 0, locals := 27 }) s m [.ref h0, .int a, .int b, .int c1, .int d, .int e1].toArray below meth c s.heap [] 0 0 Q (F0 m 54 ls (.int v2 :: []))) (fun v2 hv2 => ?_) (fun J54 => ?_)
    · refine lv_istore hx hb dSC_cell_54 hl (Nat.le_of_ble_eq_true rfl) rfl (fun ls hl => ?_)
      have hl : lv_has ls 9 [(7, .int v2), (6, .int v1), (0, .ref h0), (1, .int a), (2, .int b), (3, .int c1), (4, .int d), (5, .int e1)] := hl
      refine lv_iload hx hb dSC_cell_56 (lv_at hl 7 rfl) ?_
      refine lv_iconst (v := 0) hx hb dSC_cell_58 (by decide) ?_
      refine lv_sipush (v := 1000) hx hb dSC_cell_59 (by decide) ?_
      refine vp_callSi (W.runS (As := [.int e1, .int 0, .int 1000]) (rest := []) ⟨hx, hb, hml, hown, hz⟩ (c_SC_within l dC dI e1 0 1000 ) (va_cwS 3 hz (z_gS wd_219 wd_220 wd_29 wd_221) rfl rfl rfl (by decide +kernel) ⟨Nat.le_of_ble_eq_true rfl, Nat.le_of_ble_eq_true rfl⟩) (zp_preS hK hP [] rfl [] rfl z_true (fun _ _ _ => trivial)) rfl rfl hl.1 rfl (lv_room (Nat.le_of_ble_eq_true rfl)) dSC_cell_62 ⟨Nat.le_of_ble_eq_true rfl, Nat.le_of_ble_eq_true rfl⟩) (fun r1 h_r1 => ?_)
      refine lv_istore hx hb dSC_cell_65 hl (Nat.le_of_ble_eq_true rfl) rfl (fun ls hl => ?_)
      have hl : lv_has ls 9 [(8, .int r1), (7, .int v2), (6, .int v1), (0, .ref h0), (1, .int a), (2, .int b), (3, .int c1), (4, .int d), (5, .int e1)] := hl
      refine lv_iload hx hb dSC_cell_67 (lv_at hl 2 rfl) ?_
      refine lv_if_eq (tgt := 82) hx hb dSC_cell_69 rfl (fun h2 => ?_) (fun h2 => ?_)
      · refine lv_iconst (v := (-1)) hx hb dSC_cell_82 (by decide) ?_
        subst hQ
        exact zp_iret hx hb hr hlocks (rfl) dSC_cell_83
      · refine lv_iload hx hb dSC_cell_72 (lv_at hl 1 rfl) ?_
        refine lv_if_eq (tgt := 82) hx hb dSC_cell_74 rfl (fun h3 => ?_) (fun h3 => ?_)
        · refine lv_iconst (v := (-1)) hx hb dSC_cell_82 (by decide) ?_
          subst hQ
          exact zp_iret hx hb hr hlocks (rfl) dSC_cell_83
        · refine lv_iload hx hb dSC_cell_77 (lv_at hl 0 rfl) ?_
          refine lv_if_ne (tgt := 84) hx hb dSC_cell_79 rfl (fun h4 => ?_) (fun h4 => ?_)
          · refine lv_aload_n hx hb dSC_cell_84 rfl (lv_at hl 3 rfl) ?_
            refine va_get (D := (dC, dI)) (ci := 0) (v := .ref g) (C := RSC) (T := TSC) (N := 6) hx hb hz in_SC hown hK hP 0 rfl rfl 0 (by decide) (hz _ wd_150) (fun _ h9 => h9) rfl dSC_cell_85 ?_
            refine lv_iload_n hx hb dSC_cell_88 rfl (lv_at hl 4 rfl) ?_
            refine lv_iload_n hx hb dSC_cell_89 rfl (lv_at hl 5 rfl) ?_
            refine lv_iload_n hx hb dSC_cell_90 rfl (lv_at hl 6 rfl) ?_
            refine lv_iload hx hb dSC_cell_91 (lv_at hl 7 rfl) ?_
            refine lv_iload hx hb dSC_cell_93 (lv_at hl 8 rfl) ?_
            refine vp_callSi (W.runV (As := [.int a, .int b, .int c1, .int d, .int e1]) (rest := []) ⟨hx, hb, hml, hown, hz⟩ (c_GR_putCell l dC dI g al ed mo a b c1 d e1 ) (cwV 5 hz (z_gV wd_222 wd_223 wd_224 wd_30 wd_225) rfl rfl rfl (by decide +kernel) ⟨Nat.le_of_ble_eq_true rfl, Nat.le_of_ble_eq_true rfl⟩) (zp_preV (q0 := 1) (q := (RGR, TGR, 6)) hK hP rfl rfl [1, 2] rfl [] rfl z_true (fun _ _ _ => trivial)) rfl rfl hl.1 rfl (lv_room (Nat.le_of_ble_eq_true rfl)) dSC_cell_95 ⟨Nat.le_of_ble_eq_true rfl, Nat.le_of_ble_eq_true rfl⟩) (fun r5 h_r5 => ?_)
            have h_r5 : r5 = (-1) := h_r5
            subst h_r5
            subst hQ
            exact zp_iret hx hb hr hlocks (rfl) dSC_cell_98
          · refine lv_iconst (v := (-1)) hx hb dSC_cell_82 (by decide) ?_
            subst hQ
            exact zp_iret hx hb hr hlocks (rfl) dSC_cell_83
    · refine lv_iload hx hb dSC_cell_27 (lv_at hl 5 rfl) ?_
      refine lv_iconst (v := 0) hx hb dSC_cell_29 (by decide) ?_
      refine lv_sipush (v := 1000) hx hb dSC_cell_30 (by decide) ?_
      refine vp_callSi (W.runS (As := [.int d, .int 0, .int 1000]) (rest := []) ⟨hx, hb, hml, hown, hz⟩ (c_SC_within l dC dI d 0 1000 ) (va_cwS 3 hz (z_gS wd_219 wd_220 wd_29 wd_221) rfl rfl rfl (by decide +kernel) ⟨Nat.le_of_ble_eq_true rfl, Nat.le_of_ble_eq_true rfl⟩) (zp_preS hK hP [] rfl [] rfl z_true (fun _ _ _ => trivial)) rfl rfl hl.1 rfl (lv_room (Nat.le_of_ble_eq_true rfl)) dSC_cell_33 ⟨Nat.le_of_ble_eq_true rfl, Nat.le_of_ble_eq_true rfl⟩) (fun r6 h_r6 => ?_)
      refine lv_if_eq (tgt := 53) hx hb dSC_cell_36 rfl (fun h7 => ?_) (fun h7 => ?_)
      · refine lv_iconst (v := 0) hx hb dSC_cell_53 (by decide) ?_
        exact J54 _ (trivial)
      · refine lv_iload_n hx hb dSC_cell_39 rfl (lv_at hl 4 rfl) ?_
        refine lv_iconst (v := 0) hx hb dSC_cell_40 (by decide) ?_
        refine lv_iload hx hb dSC_cell_41 (lv_at hl 5 rfl) ?_
        refine vp_callSi (W.runS (As := [.int c1, .int 0, .int d]) (rest := []) ⟨hx, hb, hml, hown, hz⟩ (c_SC_within l dC dI c1 0 d ) (va_cwS 3 hz (z_gS wd_219 wd_220 wd_29 wd_221) rfl rfl rfl (by decide +kernel) ⟨Nat.le_of_ble_eq_true rfl, Nat.le_of_ble_eq_true rfl⟩) (zp_preS hK hP [] rfl [] rfl z_true (fun _ _ _ => trivial)) rfl rfl hl.1 rfl (lv_room (Nat.le_of_ble_eq_true rfl)) dSC_cell_43 ⟨Nat.le_of_ble_eq_true rfl, Nat.le_of_ble_eq_true rfl⟩) (fun r8 h_r8 => ?_)
        refine lv_if_eq (tgt := 53) hx hb dSC_cell_46 rfl (fun h9 => ?_) (fun h9 => ?_)
        · refine lv_iconst (v := 0) hx hb dSC_cell_53 (by decide) ?_
          exact J54 _ (trivial)
        · refine lv_iconst (v := 1) hx hb dSC_cell_49 (by decide) ?_
          refine lv_goto (tgt := 54) hx hb dSC_cell_50 rfl ?_
          exact J54 _ (trivial)
  · refine lv_iload_n hx hb dSC_cell_0 rfl (lv_at hl 1 rfl) ?_
    refine lv_iconst (v := 1) hx hb dSC_cell_1 (by decide) ?_
    refine lv_bipush (v := 6) hx hb dSC_cell_2 (by decide) ?_
    refine vp_callSi (W.runS (As := [.int a, .int 1, .int 6]) (rest := []) ⟨hx, hb, hml, hown, hz⟩ (c_SC_within l dC dI a 1 6 ) (va_cwS 3 hz (z_gS wd_219 wd_220 wd_29 wd_221) rfl rfl rfl (by decide +kernel) ⟨Nat.le_of_ble_eq_true rfl, Nat.le_of_ble_eq_true rfl⟩) (zp_preS hK hP [] rfl [] rfl z_true (fun _ _ _ => trivial)) rfl rfl hl.1 rfl (lv_room (Nat.le_of_ble_eq_true rfl)) dSC_cell_4 ⟨Nat.le_of_ble_eq_true rfl, Nat.le_of_ble_eq_true rfl⟩) (fun r10 h_r10 => ?_)
    refine lv_if_eq (tgt := 24) hx hb dSC_cell_7 rfl (fun h11 => ?_) (fun h11 => ?_)
    · refine lv_iconst (v := 0) hx hb dSC_cell_24 (by decide) ?_
      exact J25 _ (trivial)
    · refine lv_iload_n hx hb dSC_cell_10 rfl (lv_at hl 2 rfl) ?_
      refine lv_iconst (v := 0) hx hb dSC_cell_11 (by decide) ?_
      refine lv_bipush (v := 6) hx hb dSC_cell_12 (by decide) ?_
      refine vp_callSi (W.runS (As := [.int b, .int 0, .int 6]) (rest := []) ⟨hx, hb, hml, hown, hz⟩ (c_SC_within l dC dI b 0 6 ) (va_cwS 3 hz (z_gS wd_219 wd_220 wd_29 wd_221) rfl rfl rfl (by decide +kernel) ⟨Nat.le_of_ble_eq_true rfl, Nat.le_of_ble_eq_true rfl⟩) (zp_preS hK hP [] rfl [] rfl z_true (fun _ _ _ => trivial)) rfl rfl hl.1 rfl (lv_room (Nat.le_of_ble_eq_true rfl)) dSC_cell_14 ⟨Nat.le_of_ble_eq_true rfl, Nat.le_of_ble_eq_true rfl⟩) (fun r12 h_r12 => ?_)
      refine lv_if_eq (tgt := 24) hx hb dSC_cell_17 rfl (fun h13 => ?_) (fun h13 => ?_)
      · refine lv_iconst (v := 0) hx hb dSC_cell_24 (by decide) ?_
        exact J25 _ (trivial)
      · refine lv_iconst (v := 1) hx hb dSC_cell_20 (by decide) ?_
        refine lv_goto (tgt := 25) hx hb dSC_cell_21 rfl ?_
        exact J25 _ (trivial)
