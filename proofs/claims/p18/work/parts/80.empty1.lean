set_option maxHeartbeats 4000000 in
set_option maxRecDepth 100000 in
theorem e_GR_columnCount (l : Launch) (dC : Nat → ClassId) (dI : Nat → Nat → Nat) (g : Nat) (al : Nat) (gr : Nat) (gs : Nat) (bg : Nat) (re : Nat) : zp_M l yGR_columnCount wGR_columnCount ({ frames := 0, cells := 0, slots := 0, locals := 0 }) [.ref g] (dC, dI) vwCl [zob g 1 [.ref al, .int (nI gr), .int (nI gs), .int (nI bg), .int (nI re), .int (nI 0)]] [] (fun _ => True) (fun r => r = nI 0) := by
  refine zp_head (cc := cGR_columnCount) (maxL := 1) (ret := (some .int)) (by decide +kernel) rfl (Nat.le_of_ble_eq_true rfl) ?_
  intro p e s m below meth c ls F hP hK hX hl
  obtain ⟨hx, hb, hml, hr, hlocks, hown, hts⟩ := F
  have hown : s.vm.findClass "SpannedCells$Grid" = some m.cls := hown
  have hz : ∀ w9 ∈ zT, w9.before [.ref g].toArray s = true := fun w9 h => hts w9 (List.mem_cons_of_mem _ h)
  have hl : lv_has ls 1 [(0, .ref g)] := hl
  refine z_q (fun Q hQ => ?_)
  refine lv_aload_n hx hb dGR_columnCount_0 rfl (lv_at hl 0 rfl) ?_
  refine va_get (D := (dC, dI)) (ci := 1) (v := .int (nI 0)) (C := RGR) (T := TGR) (N := 6) hx hb hz in_GR hown hK hP 0 rfl rfl 5 (by decide) (hz _ wd_90) (fun _ h9 => h9) rfl dGR_columnCount_1 ?_
  subst hQ
  exact zp_iret hx hb hr hlocks (rfl) dGR_columnCount_4

set_option maxHeartbeats 4000000 in
set_option maxRecDepth 100000 in
theorem e_GR_rowCount (l : Launch) (dC : Nat → ClassId) (dI : Nat → Nat → Nat) (g : Nat) (al : Nat) (gr : Nat) (gs : Nat) (bg : Nat) (re : Nat) : zp_M l yGR_rowCount wGR_rowCount ({ frames := 0, cells := 0, slots := 0, locals := 0 }) [.ref g] (dC, dI) vwCl [zob g 1 [.ref al, .int (nI gr), .int (nI gs), .int (nI bg), .int (nI re), .int (nI 0)]] [] (fun _ => True) (fun r => r = nI re) := by
  refine zp_head (cc := cGR_rowCount) (maxL := 1) (ret := (some .int)) (by decide +kernel) rfl (Nat.le_of_ble_eq_true rfl) ?_
  intro p e s m below meth c ls F hP hK hX hl
  obtain ⟨hx, hb, hml, hr, hlocks, hown, hts⟩ := F
  have hown : s.vm.findClass "SpannedCells$Grid" = some m.cls := hown
  have hz : ∀ w9 ∈ zT, w9.before [.ref g].toArray s = true := fun w9 h => hts w9 (List.mem_cons_of_mem _ h)
  have hl : lv_has ls 1 [(0, .ref g)] := hl
  refine z_q (fun Q hQ => ?_)
  refine lv_aload_n hx hb dGR_rowCount_0 rfl (lv_at hl 0 rfl) ?_
  refine va_get (D := (dC, dI)) (ci := 1) (v := .int (nI re)) (C := RGR) (T := TGR) (N := 6) hx hb hz in_GR hown hK hP 0 rfl rfl 4 (by decide) (hz _ wd_89) (fun _ h9 => h9) rfl dGR_rowCount_1 ?_
  subst hQ
  exact zp_iret hx hb hr hlocks (rfl) dGR_rowCount_4

set_option maxHeartbeats 4000000 in
set_option maxRecDepth 100000 in
theorem e_GR_cellCount (l : Launch) (dC : Nat → ClassId) (dI : Nat → Nat → Nat) (g : Nat) (al : Nat) (gr : Nat) (gs : Nat) (bg : Nat) (re : Nat) (t : Nat) (mo : Int32) (hg : gr ≤ 1000 ∧ gs ≤ 1000 ∧ bg ≤ 1000 ∧ re ≤ 1000) : zp_M l yGR_cellCount wGR_cellCount ({ frames := 1, cells := 0, slots := 0, locals := 20 }) [.ref g] (dC, dI) vwCl [zob g 1 [.ref al, .int (nI gr), .int (nI gs), .int (nI bg), .int (nI re), .int (nI 0)], zob al 2 [.ref t, .int (nI 0), .int mo]] [] (fun _ => True) (fun r => r = nI 0) := by
  refine zp_head (cc := cGR_cellCount) (maxL := 1) (ret := (some .int)) (by decide +kernel) rfl (Nat.le_of_ble_eq_true rfl) ?_
  intro p e s m below meth c ls F hP hK hX hl
  obtain ⟨hx, hb, hml, hr, hlocks, hown, hts⟩ := F
  have hown : s.vm.findClass "SpannedCells$Grid" = some m.cls := hown
  have hz : ∀ w9 ∈ zT, w9.before [.ref g].toArray s = true := fun w9 h => hts w9 (List.mem_cons_of_mem _ h)
  have hl : lv_has ls 1 [(0, .ref g)] := hl
  refine z_q (fun Q hQ => ?_)
  refine lv_aload_n hx hb dGR_cellCount_0 rfl (lv_at hl 0 rfl) ?_
  refine va_get (D := (dC, dI)) (ci := 1) (v := .ref al) (C := RGR) (T := TGR) (N := 6) hx hb hz in_GR hown hK hP 0 rfl rfl 0 (by decide) (hz _ wd_85) (fun _ h9 => h9) rfl dGR_cellCount_1 ?_
  refine vp_callSi (W.runV (As := []) (rest := []) ⟨hx, hb, hml, hown, hz⟩ (f_AL_size l dC dI al t mo 0 ) (cwV 0 hz (z_gV wd_192 wd_193 wd_194 wd_33 wd_195) rfl rfl rfl (by decide +kernel) ⟨Nat.le_of_ble_eq_true rfl, Nat.le_of_ble_eq_true rfl⟩) (zr_preV hK (hP.sub [1] rfl) (va_recv (q0 := 1) hK hP (q := (RAL, TAL, 3)) rfl rfl) [] rfl z_true (fun _ _ _ => trivial)) rfl rfl hl.1 rfl (lv_room (Nat.le_of_ble_eq_true rfl)) dGR_cellCount_4 ⟨Nat.le_of_ble_eq_true rfl, Nat.le_of_ble_eq_true rfl⟩) (fun r1 h_r1 => ?_)
  have h_r1 : r1 = nI 0 := h_r1
  subst h_r1
  subst hQ
  exact zp_iret hx hb hr hlocks (rfl) dGR_cellCount_7

set_option maxHeartbeats 4000000 in
set_option maxRecDepth 100000 in
theorem e_GR_hasCell (l : Launch) (dC : Nat → ClassId) (dI : Nat → Nat → Nat) (g : Nat) (al : Nat) (gr : Nat) (gs : Nat) (bg : Nat) (re : Nat) (t : Nat) (mo : Int32) (k : Int32) (hg : gr ≤ 1000 ∧ gs ≤ 1000 ∧ bg ≤ 1000 ∧ re ≤ 1000) : zp_M l yGR_hasCell wGR_hasCell ({ frames := 1, cells := 0, slots := 0, locals := 20 }) [.ref g, .int k] (dC, dI) vwCl [zob g 1 [.ref al, .int (nI gr), .int (nI gs), .int (nI bg), .int (nI re), .int (nI 0)], zob al 2 [.ref t, .int (nI 0), .int mo]] [] (fun _ => True) (fun r => r = 0) := by
  refine zp_head (cc := cGR_hasCell) (maxL := 2) (ret := (some .boolean)) (by decide +kernel) rfl (Nat.le_of_ble_eq_true rfl) ?_
  intro p e s m below meth c ls F hP hK hX hl
  obtain ⟨hx, hb, hml, hr, hlocks, hown, hts⟩ := F
  have hown : s.vm.findClass "SpannedCells$Grid" = some m.cls := hown
  have hz : ∀ w9 ∈ zT, w9.before [.ref g, .int k].toArray s = true := fun w9 h => hts w9 (List.mem_cons_of_mem _ h)
  have hl : lv_has ls 2 [(0, .ref g), (1, .int k)] := hl
  refine z_q (fun Q hQ => ?_)
  refine lv_iconst (v := nI 0) hx hb dGR_hasCell_0 (by decide) ?_
  refine lv_iload_n hx hb dGR_hasCell_1 rfl (lv_at hl 1 rfl) ?_
  have t1 := nI_toInt (n := 0) (by omega)
  refine lv_icmp_gt (tgt := 20) hx hb dGR_hasCell_2 rfl (fun h2 => ?_) (fun h2 => ?_)
  · have h2 := z_lt h2
    refine lv_iconst (v := nI 0) hx hb dGR_hasCell_20 (by decide) ?_
    subst hQ
    exact zp_zret hx hb hr hlocks (Or.inl rfl) (rfl) dGR_hasCell_21
  · have h2 := z_nlt h2
    refine lv_iload_n hx hb dGR_hasCell_5 rfl (lv_at hl 1 rfl) ?_
    refine lv_aload_n hx hb dGR_hasCell_6 rfl (lv_at hl 0 rfl) ?_
    refine va_get (D := (dC, dI)) (ci := 1) (v := .ref al) (C := RGR) (T := TGR) (N := 6) hx hb hz in_GR hown hK hP 0 rfl rfl 0 (by decide) (hz _ wd_85) (fun _ h9 => h9) rfl dGR_hasCell_7 ?_
    refine vp_callSi (W.runV (As := []) (rest := [.int k]) ⟨hx, hb, hml, hown, hz⟩ (f_AL_size l dC dI al t mo 0 ) (cwV 0 hz (z_gV wd_192 wd_193 wd_194 wd_33 wd_195) rfl rfl rfl (by decide +kernel) ⟨Nat.le_of_ble_eq_true rfl, Nat.le_of_ble_eq_true rfl⟩) (zr_preV hK (hP.sub [1] rfl) (va_recv (q0 := 1) hK hP (q := (RAL, TAL, 3)) rfl rfl) [] rfl z_true (fun _ _ _ => trivial)) rfl rfl hl.1 rfl (lv_room (Nat.le_of_ble_eq_true rfl)) dGR_hasCell_10 ⟨Nat.le_of_ble_eq_true rfl, Nat.le_of_ble_eq_true rfl⟩) (fun r3 h_r3 => ?_)
    have h_r3 : r3 = nI 0 := h_r3
    subst h_r3
    have t4 := nI_toInt (n := 0) (by omega)
    refine lv_icmp_ge (tgt := 20) hx hb dGR_hasCell_13 rfl (fun _ => ?_) (fun h => by have h := z_nle h; omega)
    refine lv_iconst (v := nI 0) hx hb dGR_hasCell_20 (by decide) ?_
    subst hQ
    exact zp_zret hx hb hr hlocks (Or.inl rfl) (rfl) dGR_hasCell_21

set_option maxHeartbeats 4000000 in
set_option maxRecDepth 100000 in
theorem e_GR_ownerOf (l : Launch) (dC : Nat → ClassId) (dI : Nat → Nat → Nat) (g : Nat) (al : Nat) (gr : Nat) (gs : Nat) (bg : Nat) (re : Nat) (t : Nat) (mo : Int32) (x : Int32) (y : Int32) (hg : gr ≤ 1000 ∧ gs ≤ 1000 ∧ bg ≤ 1000 ∧ re ≤ 1000) : zp_M l yGR_ownerOf wGR_ownerOf ({ frames := 1, cells := 0, slots := 0, locals := 20 }) [.ref g, .int x, .int y] (dC, dI) vwCl [zob g 1 [.ref al, .int (nI gr), .int (nI gs), .int (nI bg), .int (nI re), .int (nI 0)], zob al 2 [.ref t, .int (nI 0), .int mo]] [] (fun _ => True) (fun r => r = -1) := by
  refine zp_head (cc := cGR_ownerOf) (maxL := 4) (ret := (some .int)) (by decide +kernel) rfl (Nat.le_of_ble_eq_true rfl) ?_
  intro p e s m below meth c ls F hP hK hX hl
  obtain ⟨hx, hb, hml, hr, hlocks, hown, hts⟩ := F
  have hown : s.vm.findClass "SpannedCells$Grid" = some m.cls := hown
  have hz : ∀ w9 ∈ zT, w9.before [.ref g, .int x, .int y].toArray s = true := fun w9 h => hts w9 (List.mem_cons_of_mem _ h)
  have hl : lv_has ls 4 [(0, .ref g), (1, .int x), (2, .int y)] := hl
  refine z_q (fun Q hQ => ?_)
  refine lv_iconst (v := nI 0) hx hb dGR_ownerOf_0 (by decide) ?_
  refine lv_istore_n hx hb dGR_ownerOf_1 rfl hl (Nat.le_of_ble_eq_true rfl) rfl (fun ls hl => ?_)
  have hl : lv_has ls 4 [(3, .int (nI 0)), (0, .ref g), (1, .int x), (2, .int y)] := hl
  refine lv_iload_n hx hb dGR_ownerOf_2 rfl (lv_at hl 0 rfl) ?_
  refine lv_aload_n hx hb dGR_ownerOf_3 rfl (lv_at hl 1 rfl) ?_
  refine va_get (D := (dC, dI)) (ci := 1) (v := .ref al) (C := RGR) (T := TGR) (N := 6) hx hb hz in_GR hown hK hP 0 rfl rfl 0 (by decide) (hz _ wd_85) (fun _ h9 => h9) rfl dGR_ownerOf_4 ?_
  refine vp_callSi (W.runV (As := []) (rest := [.int (nI 0)]) ⟨hx, hb, hml, hown, hz⟩ (f_AL_size l dC dI al t mo 0 ) (cwV 0 hz (z_gV wd_192 wd_193 wd_194 wd_33 wd_195) rfl rfl rfl (by decide +kernel) ⟨Nat.le_of_ble_eq_true rfl, Nat.le_of_ble_eq_true rfl⟩) (zr_preV hK (hP.sub [1] rfl) (va_recv (q0 := 1) hK hP (q := (RAL, TAL, 3)) rfl rfl) [] rfl z_true (fun _ _ _ => trivial)) rfl rfl hl.1 rfl (lv_room (Nat.le_of_ble_eq_true rfl)) dGR_ownerOf_7 ⟨Nat.le_of_ble_eq_true rfl, Nat.le_of_ble_eq_true rfl⟩) (fun r1 h_r1 => ?_)
  have h_r1 : r1 = nI 0 := h_r1
  subst h_r1
  refine lv_icmp_ge (tgt := 40) hx hb dGR_ownerOf_10 rfl (fun _ => ?_) (fun h => absurd (by decide) h)
  refine lv_iconst (v := (-1)) hx hb dGR_ownerOf_40 (by decide) ?_
  subst hQ
  exact zp_iret hx hb hr hlocks (rfl) dGR_ownerOf_41

set_option maxHeartbeats 4000000 in
set_option maxRecDepth 100000 in
theorem e_GR_countOwnedSlots (l : Launch) (dC : Nat → ClassId) (dI : Nat → Nat → Nat) (g : Nat) (al : Nat) (gr : Nat) (gs : Nat) (bg : Nat) (re : Nat) (t : Nat) (mo : Int32) (hg : gr ≤ 1000 ∧ gs ≤ 1000 ∧ bg ≤ 1000 ∧ re ≤ 1000) : zp_M l yGR_countOwnedSlots wGR_countOwnedSlots ({ frames := 0, cells := 0, slots := 0, locals := 0 }) [.ref g] (dC, dI) vwCl [zob g 1 [.ref al, .int (nI gr), .int (nI gs), .int (nI bg), .int (nI re), .int (nI 0)], zob al 2 [.ref t, .int (nI 0), .int mo]] [] (fun _ => True) (fun r => r = nI 0) := by
  refine zp_head (cc := cGR_countOwnedSlots) (maxL := 4) (ret := (some .int)) (by decide +kernel) rfl (Nat.le_of_ble_eq_true rfl) ?_
  intro p e s m below meth c ls F hP hK hX hl
  obtain ⟨hx, hb, hml, hr, hlocks, hown, hts⟩ := F
  have hown : s.vm.findClass "SpannedCells$Grid" = some m.cls := hown
  have hz : ∀ w9 ∈ zT, w9.before [.ref g].toArray s = true := fun w9 h => hts w9 (List.mem_cons_of_mem _ h)
  have hl : lv_has ls 4 [(0, .ref g)] := hl
  refine z_q (fun Q hQ => ?_)
  refine lv_iconst (v := nI 0) hx hb dGR_countOwnedSlots_0 (by decide) ?_
  refine lv_istore_n hx hb dGR_countOwnedSlots_1 rfl hl (Nat.le_of_ble_eq_true rfl) rfl (fun ls hl => ?_)
  have hl : lv_has ls 4 [(1, .int (nI 0)), (0, .ref g)] := hl
  refine lv_iconst (v := nI 0) hx hb dGR_countOwnedSlots_2 (by decide) ?_
  refine lv_istore_n hx hb dGR_countOwnedSlots_3 rfl hl (Nat.le_of_ble_eq_true rfl) rfl (fun ls hl => ?_)
  have hl : lv_has ls 4 [(2, .int (nI 0)), (1, .int (nI 0)), (0, .ref g)] := hl
  refine zl_up (σ := Unit) re (fun i x9 ls => lv_has ls 4 [(2, .int (nI i)), (1, .int (nI 0)), (0, .ref g)]) ?_ ?_ 0 (Nat.zero_le _) () ls (lv_sub hl [0, 1, 2] rfl)
  · intro x9 ls hI
    have hl := hI
    have hl : lv_has ls 4 [(2, .int (nI re)), (1, .int (nI 0)), (0, .ref g)] := hl
    refine lv_iload_n hx hb dGR_countOwnedSlots_4 rfl (lv_at hl 0 rfl) ?_
    refine lv_aload_n hx hb dGR_countOwnedSlots_5 rfl (lv_at hl 2 rfl) ?_
    refine va_get (D := (dC, dI)) (ci := 1) (v := .int (nI re)) (C := RGR) (T := TGR) (N := 6) hx hb hz in_GR hown hK hP 0 rfl rfl 4 (by decide) (hz _ wd_89) (fun _ h9 => h9) rfl dGR_countOwnedSlots_6 ?_
    have t1 := nI_toInt (n := re) (by omega)
    have t2 := nI_toInt (n := re) (by omega)
    refine lv_icmp_ge (tgt := 52) hx hb dGR_countOwnedSlots_9 rfl (fun _ => ?_) (fun h => by have h := z_nle h; omega)
    refine lv_iload_n hx hb dGR_countOwnedSlots_52 rfl (lv_at hl 1 rfl) ?_
    subst hQ
    exact zp_iret hx hb hr hlocks (rfl) dGR_countOwnedSlots_53
  · intro i hi ih
    intro x9 ls hI
    have hl := hI
    have hl : lv_has ls 4 [(2, .int (nI i)), (1, .int (nI 0)), (0, .ref g)] := hl
    refine lv_iload_n hx hb dGR_countOwnedSlots_4 rfl (lv_at hl 0 rfl) ?_
    refine lv_aload_n hx hb dGR_countOwnedSlots_5 rfl (lv_at hl 2 rfl) ?_
    refine va_get (D := (dC, dI)) (ci := 1) (v := .int (nI re)) (C := RGR) (T := TGR) (N := 6) hx hb hz in_GR hown hK hP 0 rfl rfl 4 (by decide) (hz _ wd_89) (fun _ h9 => h9) rfl dGR_countOwnedSlots_6 ?_
    have t3 := nI_toInt (n := i) (by omega)
    have t4 := nI_toInt (n := re) (by omega)
    refine lv_icmp_ge (tgt := 52) hx hb dGR_countOwnedSlots_9 rfl (fun h => by have h := z_le h; omega) (fun _ => ?_)
    refine lv_iconst (v := nI 0) hx hb dGR_countOwnedSlots_12 (by decide) ?_
    refine lv_istore_n hx hb dGR_countOwnedSlots_13 rfl hl (Nat.le_of_ble_eq_true rfl) rfl (fun ls hl => ?_)
    have hl : lv_has ls 4 [(3, .int (nI 0)), (2, .int (nI i)), (1, .int (nI 0)), (0, .ref g)] := hl
    refine lv_iload_n hx hb dGR_countOwnedSlots_14 rfl (lv_at hl 0 rfl) ?_
    refine lv_aload_n hx hb dGR_countOwnedSlots_15 rfl (lv_at hl 3 rfl) ?_
    refine va_get (D := (dC, dI)) (ci := 1) (v := .int (nI 0)) (C := RGR) (T := TGR) (N := 6) hx hb hz in_GR hown hK hP 0 rfl rfl 5 (by decide) (hz _ wd_90) (fun _ h9 => h9) rfl dGR_countOwnedSlots_16 ?_
    refine lv_icmp_ge (tgt := 46) hx hb dGR_countOwnedSlots_19 rfl (fun _ => ?_) (fun h => absurd (by decide) h)
    refine lv_iinc (k := 1) (v := nI (i + 1)) hx hb dGR_countOwnedSlots_46 hl rfl (by rw [show Int32.ofInt 1 = nI 1 from by decide]; exact nI_add _ _) (Nat.le_of_ble_eq_true rfl) rfl (fun ls hl => ?_)
    have hl : lv_has ls 4 [(2, .int (nI (i + 1))), (3, .int (nI 0)), (1, .int (nI 0)), (0, .ref g)] := hl
    refine lv_goto (tgt := 4) hx hb dGR_countOwnedSlots_49 rfl ?_
    exact ih () ls (lv_sub hl [0, 2, 3] rfl)

set_option maxHeartbeats 4000000 in
set_option maxRecDepth 100000 in
theorem e_GR_countOverlaps (l : Launch) (dC : Nat → ClassId) (dI : Nat → Nat → Nat) (g : Nat) (al : Nat) (gr : Nat) (gs : Nat) (bg : Nat) (re : Nat) (t : Nat) (mo : Int32) (hg : gr ≤ 1000 ∧ gs ≤ 1000 ∧ bg ≤ 1000 ∧ re ≤ 1000) : zp_M l yGR_countOverlaps wGR_countOverlaps ({ frames := 1, cells := 0, slots := 0, locals := 23 }) [.ref g] (dC, dI) vwCl [zob g 1 [.ref al, .int (nI gr), .int (nI gs), .int (nI bg), .int (nI re), .int (nI 0)], zob al 2 [.ref t, .int (nI 0), .int mo]] [] (fun _ => True) (fun r => r = nI 0 - nI 0) := by
  refine zp_head (cc := cGR_countOverlaps) (maxL := 3) (ret := (some .int)) (by decide +kernel) rfl (Nat.le_of_ble_eq_true rfl) ?_
  intro p e s m below meth c ls F hP hK hX hl
  obtain ⟨hx, hb, hml, hr, hlocks, hown, hts⟩ := F
  have hown : s.vm.findClass "SpannedCells$Grid" = some m.cls := hown
  have hz : ∀ w9 ∈ zT, w9.before [.ref g].toArray s = true := fun w9 h => hts w9 (List.mem_cons_of_mem _ h)
  have hl : lv_has ls 3 [(0, .ref g)] := hl
  refine z_q (fun Q hQ => ?_)
  refine lv_iconst (v := nI 0) hx hb dGR_countOverlaps_0 (by decide) ?_
  refine lv_istore_n hx hb dGR_countOverlaps_1 rfl hl (Nat.le_of_ble_eq_true rfl) rfl (fun ls hl => ?_)
  have hl : lv_has ls 3 [(1, .int (nI 0)), (0, .ref g)] := hl
  refine lv_iconst (v := nI 0) hx hb dGR_countOverlaps_2 (by decide) ?_
  refine lv_istore_n hx hb dGR_countOverlaps_3 rfl hl (Nat.le_of_ble_eq_true rfl) rfl (fun ls hl => ?_)
  have hl : lv_has ls 3 [(2, .int (nI 0)), (1, .int (nI 0)), (0, .ref g)] := hl
  refine lv_iload_n hx hb dGR_countOverlaps_4 rfl (lv_at hl 0 rfl) ?_
  refine lv_aload_n hx hb dGR_countOverlaps_5 rfl (lv_at hl 2 rfl) ?_
  refine va_get (D := (dC, dI)) (ci := 1) (v := .ref al) (C := RGR) (T := TGR) (N := 6) hx hb hz in_GR hown hK hP 0 rfl rfl 0 (by decide) (hz _ wd_85) (fun _ h9 => h9) rfl dGR_countOverlaps_6 ?_
  refine vp_callSi (W.runV (As := []) (rest := [.int (nI 0)]) ⟨hx, hb, hml, hown, hz⟩ (f_AL_size l dC dI al t mo 0 ) (cwV 0 hz (z_gV wd_192 wd_193 wd_194 wd_33 wd_195) rfl rfl rfl (by decide +kernel) ⟨Nat.le_of_ble_eq_true rfl, Nat.le_of_ble_eq_true rfl⟩) (zr_preV hK (hP.sub [1] rfl) (va_recv (q0 := 1) hK hP (q := (RAL, TAL, 3)) rfl rfl) [] rfl z_true (fun _ _ _ => trivial)) rfl rfl hl.1 rfl (lv_room (Nat.le_of_ble_eq_true rfl)) dGR_countOverlaps_9 ⟨Nat.le_of_ble_eq_true rfl, Nat.le_of_ble_eq_true rfl⟩) (fun r1 h_r1 => ?_)
  have h_r1 : r1 = nI 0 := h_r1
  subst h_r1
  refine lv_icmp_ge (tgt := 53) hx hb dGR_countOverlaps_12 rfl (fun _ => ?_) (fun h => absurd (by decide) h)
  refine lv_iload_n hx hb dGR_countOverlaps_53 rfl (lv_at hl 1 rfl) ?_
  refine lv_aload_n hx hb dGR_countOverlaps_54 rfl (lv_at hl 2 rfl) ?_
  refine vp_callSi (W.runV (As := []) (rest := [.int (nI 0)]) ⟨hx, hb, hml, hown, hz⟩ (e_GR_countOwnedSlots l dC dI g al gr gs bg re t mo (by omega)) (cwV 0 hz (z_gV wd_416 wd_418 wd_5 wd_30 wd_419) rfl rfl rfl (by decide +kernel) ⟨Nat.le_of_ble_eq_true rfl, Nat.le_of_ble_eq_true rfl⟩) (zr_preV hK (hP.sub [0, 1] rfl) (va_recv (q0 := 0) hK hP (q := (RGR, TGR, 6)) rfl rfl) [] rfl z_true (fun _ _ _ => trivial)) rfl rfl hl.1 rfl (lv_room (Nat.le_of_ble_eq_true rfl)) dGR_countOverlaps_55 ⟨Nat.le_of_ble_eq_true rfl, Nat.le_of_ble_eq_true rfl⟩) (fun r2 h_r2 => ?_)
  have h_r2 : r2 = nI 0 := h_r2
  subst h_r2
  refine lv_isub hx hb dGR_countOverlaps_58 ?_
  subst hQ
  exact zp_iret hx hb hr hlocks (rfl) dGR_countOverlaps_59

set_option maxHeartbeats 4000000 in
set_option maxRecDepth 100000 in
theorem e_GR_beginsInRow (l : Launch) (dC : Nat → ClassId) (dI : Nat → Nat → Nat) (g : Nat) (al : Nat) (gr : Nat) (gs : Nat) (bg : Nat) (re : Nat) (t : Nat) (mo : Int32) (y : Int32) (hg : gr ≤ 1000 ∧ gs ≤ 1000 ∧ bg ≤ 1000 ∧ re ≤ 1000) : zp_M l yGR_beginsInRow wGR_beginsInRow ({ frames := 1, cells := 0, slots := 0, locals := 20 }) [.ref g, .int y] (dC, dI) vwCl [zob g 1 [.ref al, .int (nI gr), .int (nI gs), .int (nI bg), .int (nI re), .int (nI 0)], zob al 2 [.ref t, .int (nI 0), .int mo]] [] (fun _ => True) (fun r => r = 0) := by
  refine zp_head (cc := cGR_beginsInRow) (maxL := 3) (ret := (some .boolean)) (by decide +kernel) rfl (Nat.le_of_ble_eq_true rfl) ?_
  intro p e s m below meth c ls F hP hK hX hl
  obtain ⟨hx, hb, hml, hr, hlocks, hown, hts⟩ := F
  have hown : s.vm.findClass "SpannedCells$Grid" = some m.cls := hown
  have hz : ∀ w9 ∈ zT, w9.before [.ref g, .int y].toArray s = true := fun w9 h => hts w9 (List.mem_cons_of_mem _ h)
  have hl : lv_has ls 3 [(0, .ref g), (1, .int y)] := hl
  refine z_q (fun Q hQ => ?_)
  refine lv_iconst (v := nI 0) hx hb dGR_beginsInRow_0 (by decide) ?_
  refine lv_istore_n hx hb dGR_beginsInRow_1 rfl hl (Nat.le_of_ble_eq_true rfl) rfl (fun ls hl => ?_)
  have hl : lv_has ls 3 [(2, .int (nI 0)), (0, .ref g), (1, .int y)] := hl
  refine lv_iload_n hx hb dGR_beginsInRow_2 rfl (lv_at hl 0 rfl) ?_
  refine lv_aload_n hx hb dGR_beginsInRow_3 rfl (lv_at hl 1 rfl) ?_
  refine va_get (D := (dC, dI)) (ci := 1) (v := .ref al) (C := RGR) (T := TGR) (N := 6) hx hb hz in_GR hown hK hP 0 rfl rfl 0 (by decide) (hz _ wd_85) (fun _ h9 => h9) rfl dGR_beginsInRow_4 ?_
  refine vp_callSi (W.runV (As := []) (rest := [.int (nI 0)]) ⟨hx, hb, hml, hown, hz⟩ (f_AL_size l dC dI al t mo 0 ) (cwV 0 hz (z_gV wd_192 wd_193 wd_194 wd_33 wd_195) rfl rfl rfl (by decide +kernel) ⟨Nat.le_of_ble_eq_true rfl, Nat.le_of_ble_eq_true rfl⟩) (zr_preV hK (hP.sub [1] rfl) (va_recv (q0 := 1) hK hP (q := (RAL, TAL, 3)) rfl rfl) [] rfl z_true (fun _ _ _ => trivial)) rfl rfl hl.1 rfl (lv_room (Nat.le_of_ble_eq_true rfl)) dGR_beginsInRow_7 ⟨Nat.le_of_ble_eq_true rfl, Nat.le_of_ble_eq_true rfl⟩) (fun r1 h_r1 => ?_)
  have h_r1 : r1 = nI 0 := h_r1
  subst h_r1
  refine lv_icmp_ge (tgt := 39) hx hb dGR_beginsInRow_10 rfl (fun _ => ?_) (fun h => absurd (by decide) h)
  refine lv_iconst (v := nI 0) hx hb dGR_beginsInRow_39 (by decide) ?_
  subst hQ
  exact zp_zret hx hb hr hlocks (Or.inl rfl) (rfl) dGR_beginsInRow_40

set_option maxHeartbeats 4000000 in
set_option maxRecDepth 100000 in
theorem e_GR_countEmptyColumns (l : Launch) (dC : Nat → ClassId) (dI : Nat → Nat → Nat) (g : Nat) (al : Nat) (gr : Nat) (gs : Nat) (bg : Nat) (re : Nat) (t : Nat) (mo : Int32) (hg : gr ≤ 1000 ∧ gs ≤ 1000 ∧ bg ≤ 1000 ∧ re ≤ 1000) : zp_M l yGR_countEmptyColumns wGR_countEmptyColumns ({ frames := 0, cells := 0, slots := 0, locals := 0 }) [.ref g] (dC, dI) vwCl [zob g 1 [.ref al, .int (nI gr), .int (nI gs), .int (nI bg), .int (nI re), .int (nI 0)], zob al 2 [.ref t, .int (nI 0), .int mo]] [] (fun _ => True) (fun r => r = nI 0) := by
  refine zp_head (cc := cGR_countEmptyColumns) (maxL := 3) (ret := (some .int)) (by decide +kernel) rfl (Nat.le_of_ble_eq_true rfl) ?_
  intro p e s m below meth c ls F hP hK hX hl
  obtain ⟨hx, hb, hml, hr, hlocks, hown, hts⟩ := F
  have hown : s.vm.findClass "SpannedCells$Grid" = some m.cls := hown
  have hz : ∀ w9 ∈ zT, w9.before [.ref g].toArray s = true := fun w9 h => hts w9 (List.mem_cons_of_mem _ h)
  have hl : lv_has ls 3 [(0, .ref g)] := hl
  refine z_q (fun Q hQ => ?_)
  refine lv_iconst (v := nI 0) hx hb dGR_countEmptyColumns_0 (by decide) ?_
  refine lv_istore_n hx hb dGR_countEmptyColumns_1 rfl hl (Nat.le_of_ble_eq_true rfl) rfl (fun ls hl => ?_)
  have hl : lv_has ls 3 [(1, .int (nI 0)), (0, .ref g)] := hl
  refine lv_iconst (v := nI 0) hx hb dGR_countEmptyColumns_2 (by decide) ?_
  refine lv_istore_n hx hb dGR_countEmptyColumns_3 rfl hl (Nat.le_of_ble_eq_true rfl) rfl (fun ls hl => ?_)
  have hl : lv_has ls 3 [(2, .int (nI 0)), (1, .int (nI 0)), (0, .ref g)] := hl
  refine lv_iload_n hx hb dGR_countEmptyColumns_4 rfl (lv_at hl 0 rfl) ?_
  refine lv_aload_n hx hb dGR_countEmptyColumns_5 rfl (lv_at hl 2 rfl) ?_
  refine va_get (D := (dC, dI)) (ci := 1) (v := .int (nI 0)) (C := RGR) (T := TGR) (N := 6) hx hb hz in_GR hown hK hP 0 rfl rfl 5 (by decide) (hz _ wd_90) (fun _ h9 => h9) rfl dGR_countEmptyColumns_6 ?_
  refine lv_icmp_ge (tgt := 34) hx hb dGR_countEmptyColumns_9 rfl (fun _ => ?_) (fun h => absurd (by decide) h)
  refine lv_iload_n hx hb dGR_countEmptyColumns_34 rfl (lv_at hl 1 rfl) ?_
  subst hQ
  exact zp_iret hx hb hr hlocks (rfl) dGR_countEmptyColumns_35

set_option maxHeartbeats 4000000 in
set_option maxRecDepth 100000 in
theorem e_GR_countEmptyRows (l : Launch) (dC : Nat → ClassId) (dI : Nat → Nat → Nat) (g : Nat) (al : Nat) (gr : Nat) (gs : Nat) (bg : Nat) (re : Nat) (t : Nat) (mo : Int32) (hg : gr ≤ 1000 ∧ gs ≤ 1000 ∧ bg ≤ 1000 ∧ re ≤ 1000) : zp_M l yGR_countEmptyRows wGR_countEmptyRows ({ frames := 2, cells := 0, slots := 0, locals := 42 }) [.ref g] (dC, dI) vwCl [zob g 1 [.ref al, .int (nI gr), .int (nI gs), .int (nI bg), .int (nI re), .int (nI 0)], zob al 2 [.ref t, .int (nI 0), .int mo]] [] (fun _ => True) (fun r => r = nI re) := by
  refine zp_head (cc := cGR_countEmptyRows) (maxL := 3) (ret := (some .int)) (by decide +kernel) rfl (Nat.le_of_ble_eq_true rfl) ?_
  intro p e s m below meth c ls F hP hK hX hl
  obtain ⟨hx, hb, hml, hr, hlocks, hown, hts⟩ := F
  have hown : s.vm.findClass "SpannedCells$Grid" = some m.cls := hown
  have hz : ∀ w9 ∈ zT, w9.before [.ref g].toArray s = true := fun w9 h => hts w9 (List.mem_cons_of_mem _ h)
  have hl : lv_has ls 3 [(0, .ref g)] := hl
  refine z_q (fun Q hQ => ?_)
  refine lv_iconst (v := nI 0) hx hb dGR_countEmptyRows_0 (by decide) ?_
  refine lv_istore_n hx hb dGR_countEmptyRows_1 rfl hl (Nat.le_of_ble_eq_true rfl) rfl (fun ls hl => ?_)
  have hl : lv_has ls 3 [(1, .int (nI 0)), (0, .ref g)] := hl
  refine lv_iconst (v := nI 0) hx hb dGR_countEmptyRows_2 (by decide) ?_
  refine lv_istore_n hx hb dGR_countEmptyRows_3 rfl hl (Nat.le_of_ble_eq_true rfl) rfl (fun ls hl => ?_)
  have hl : lv_has ls 3 [(2, .int (nI 0)), (1, .int (nI 0)), (0, .ref g)] := hl
  refine zl_up (σ := Unit) re (fun i x9 ls => lv_has ls 3 [(2, .int (nI i)), (1, .int (nI i)), (0, .ref g)]) ?_ ?_ 0 (Nat.zero_le _) () ls (lv_sub hl [0, 1, 2] rfl)
  · intro x9 ls hI
    have hl := hI
    have hl : lv_has ls 3 [(2, .int (nI re)), (1, .int (nI re)), (0, .ref g)] := hl
    refine lv_iload_n hx hb dGR_countEmptyRows_4 rfl (lv_at hl 0 rfl) ?_
    refine lv_aload_n hx hb dGR_countEmptyRows_5 rfl (lv_at hl 2 rfl) ?_
    refine va_get (D := (dC, dI)) (ci := 1) (v := .int (nI re)) (C := RGR) (T := TGR) (N := 6) hx hb hz in_GR hown hK hP 0 rfl rfl 4 (by decide) (hz _ wd_89) (fun _ h9 => h9) rfl dGR_countEmptyRows_6 ?_
    have t1 := nI_toInt (n := re) (by omega)
    have t2 := nI_toInt (n := re) (by omega)
    refine lv_icmp_ge (tgt := 34) hx hb dGR_countEmptyRows_9 rfl (fun _ => ?_) (fun h => by have h := z_nle h; omega)
    refine lv_iload_n hx hb dGR_countEmptyRows_34 rfl (lv_at hl 1 rfl) ?_
    subst hQ
    exact zp_iret hx hb hr hlocks (rfl) dGR_countEmptyRows_35
  · intro i hi ih
    intro x9 ls hI
    have hl := hI
    have hl : lv_has ls 3 [(2, .int (nI i)), (1, .int (nI i)), (0, .ref g)] := hl
    refine lv_iload_n hx hb dGR_countEmptyRows_4 rfl (lv_at hl 0 rfl) ?_
    refine lv_aload_n hx hb dGR_countEmptyRows_5 rfl (lv_at hl 2 rfl) ?_
    refine va_get (D := (dC, dI)) (ci := 1) (v := .int (nI re)) (C := RGR) (T := TGR) (N := 6) hx hb hz in_GR hown hK hP 0 rfl rfl 4 (by decide) (hz _ wd_89) (fun _ h9 => h9) rfl dGR_countEmptyRows_6 ?_
    have t3 := nI_toInt (n := i) (by omega)
    have t4 := nI_toInt (n := re) (by omega)
    refine lv_icmp_ge (tgt := 34) hx hb dGR_countEmptyRows_9 rfl (fun h => by have h := z_le h; omega) (fun _ => ?_)
    refine lv_iload_n hx hb dGR_countEmptyRows_12 rfl (lv_at hl 1 rfl) ?_
    refine lv_aload_n hx hb dGR_countEmptyRows_13 rfl (lv_at hl 2 rfl) ?_
    refine lv_iload_n hx hb dGR_countEmptyRows_14 rfl (lv_at hl 0 rfl) ?_
    refine vp_callSi (W.runV (As := [.int (nI i)]) (rest := [.int (nI i)]) ⟨hx, hb, hml, hown, hz⟩ (e_GR_beginsInRow l dC dI g al gr gs bg re t mo (nI i) (by omega)) (cwV 1 hz (z_gV wd_436 wd_438 wd_7 wd_30 wd_439) rfl rfl rfl (by decide +kernel) ⟨Nat.le_of_ble_eq_true rfl, Nat.le_of_ble_eq_true rfl⟩) (zr_preV hK (hP.sub [0, 1] rfl) (va_recv (q0 := 0) hK hP (q := (RGR, TGR, 6)) rfl rfl) [] rfl z_true (fun _ _ _ => trivial)) rfl rfl hl.1 rfl (lv_room (Nat.le_of_ble_eq_true rfl)) dGR_countEmptyRows_15 ⟨Nat.le_of_ble_eq_true rfl, Nat.le_of_ble_eq_true rfl⟩) (fun r5 h_r5 => ?_)
    have h_r5 : r5 = 0 := h_r5
    subst h_r5
    refine lv_if_eq (tgt := 25) hx hb dGR_countEmptyRows_18 rfl (fun _ => ?_) (fun h => absurd (by decide) h)
    refine lv_iconst (v := nI 1) hx hb dGR_countEmptyRows_25 (by decide) ?_
    refine lv_iadd hx hb dGR_countEmptyRows_26 ?_
    refine lv_topi (fun x6 e7 => ?_)
    have e7 : x6 = nI (i + 1) := e7.trans (nI_add _ _)
    subst e7
    refine lv_istore_n hx hb dGR_countEmptyRows_27 rfl hl (Nat.le_of_ble_eq_true rfl) rfl (fun ls hl => ?_)
    have hl : lv_has ls 3 [(1, .int (nI (i + 1))), (2, .int (nI i)), (0, .ref g)] := hl
    refine lv_iinc (k := 1) (v := nI (i + 1)) hx hb dGR_countEmptyRows_28 hl rfl (by rw [show Int32.ofInt 1 = nI 1 from by decide]; exact nI_add _ _) (Nat.le_of_ble_eq_true rfl) rfl (fun ls hl => ?_)
    have hl : lv_has ls 3 [(2, .int (nI (i + 1))), (1, .int (nI (i + 1))), (0, .ref g)] := hl
    refine lv_goto (tgt := 4) hx hb dGR_countEmptyRows_31 rfl ?_
    exact ih () ls (lv_sub hl [0, 1, 2] rfl)

set_option maxHeartbeats 4000000 in
set_option maxRecDepth 100000 in
theorem e_GR_firstFreeColumn (l : Launch) (dC : Nat → ClassId) (dI : Nat → Nat → Nat) (g : Nat) (al : Nat) (gr : Nat) (gs : Nat) (bg : Nat) (re : Nat) (t : Nat) (mo : Int32) (y : Int32) (hg : gr ≤ 1000 ∧ gs ≤ 1000 ∧ bg ≤ 1000 ∧ re ≤ 1000) : zp_M l yGR_firstFreeColumn wGR_firstFreeColumn ({ frames := 2, cells := 0, slots := 0, locals := 43 }) [.ref g, .int y] (dC, dI) vwCl [zob g 1 [.ref al, .int (nI gr), .int (nI gs), .int (nI bg), .int (nI re), .int (nI 0)], zob al 2 [.ref t, .int (nI 0), .int mo]] [] (fun _ => True) (fun r => r = nI 0) := by
  refine zp_head (cc := cGR_firstFreeColumn) (maxL := 3) (ret := (some .int)) (by decide +kernel) rfl (Nat.le_of_ble_eq_true rfl) ?_
  intro p e s m below meth c ls F hP hK hX hl
  obtain ⟨hx, hb, hml, hr, hlocks, hown, hts⟩ := F
  have hown : s.vm.findClass "SpannedCells$Grid" = some m.cls := hown
  have hz : ∀ w9 ∈ zT, w9.before [.ref g, .int y].toArray s = true := fun w9 h => hts w9 (List.mem_cons_of_mem _ h)
  have hl : lv_has ls 3 [(0, .ref g), (1, .int y)] := hl
  refine z_q (fun Q hQ => ?_)
  refine lv_iconst (v := nI 0) hx hb dGR_firstFreeColumn_0 (by decide) ?_
  refine lv_istore_n hx hb dGR_firstFreeColumn_1 rfl hl (Nat.le_of_ble_eq_true rfl) rfl (fun ls hl => ?_)
  have hl : lv_has ls 3 [(2, .int (nI 0)), (0, .ref g), (1, .int y)] := hl
  refine lv_iload_n hx hb dGR_firstFreeColumn_2 rfl (lv_at hl 0 rfl) ?_
  refine lv_bipush (v := nI 12) hx hb dGR_firstFreeColumn_3 (by decide) ?_
  refine lv_icmp_ge (tgt := 26) hx hb dGR_firstFreeColumn_5 rfl (fun h => absurd h (by decide)) (fun _ => ?_)
  refine lv_aload_n hx hb dGR_firstFreeColumn_8 rfl (lv_at hl 1 rfl) ?_
  refine lv_iload_n hx hb dGR_firstFreeColumn_9 rfl (lv_at hl 0 rfl) ?_
  refine lv_iload_n hx hb dGR_firstFreeColumn_10 rfl (lv_at hl 2 rfl) ?_
  refine vp_callSi (W.runV (As := [.int (nI 0), .int y]) (rest := []) ⟨hx, hb, hml, hown, hz⟩ (e_GR_ownerOf l dC dI g al gr gs bg re t mo (nI 0) y (by omega)) (cwV 2 hz (z_gV wd_230 wd_231 wd_232 wd_30 wd_233) rfl rfl rfl (by decide +kernel) ⟨Nat.le_of_ble_eq_true rfl, Nat.le_of_ble_eq_true rfl⟩) (zr_preV hK (hP.sub [0, 1] rfl) (va_recv (q0 := 0) hK hP (q := (RGR, TGR, 6)) rfl rfl) [] rfl z_true (fun _ _ _ => trivial)) rfl rfl hl.1 rfl (lv_room (Nat.le_of_ble_eq_true rfl)) dGR_firstFreeColumn_11 ⟨Nat.le_of_ble_eq_true rfl, Nat.le_of_ble_eq_true rfl⟩) (fun r1 h_r1 => ?_)
  have h_r1 : r1 = -1 := h_r1
  subst h_r1
  refine lv_iconst (v := (-1)) hx hb dGR_firstFreeColumn_14 (by decide) ?_
  refine lv_icmp_ne (tgt := 20) hx hb dGR_firstFreeColumn_15 rfl (fun h => absurd (by decide) h) (fun _ => ?_)
  refine lv_iload_n hx hb dGR_firstFreeColumn_18 rfl (lv_at hl 0 rfl) ?_
  subst hQ
  exact zp_iret hx hb hr hlocks (rfl) dGR_firstFreeColumn_19

set_option maxHeartbeats 4000000 in
set_option maxRecDepth 100000 in
theorem e_GR_hasSlot (l : Launch) (dC : Nat → ClassId) (dI : Nat → Nat → Nat) (g : Nat) (al : Nat) (gr : Nat) (gs : Nat) (bg : Nat) (re : Nat) (t : Nat) (mo : Int32) (x : Int32) (y : Int32) (hg : gr ≤ 1000 ∧ gs ≤ 1000 ∧ bg ≤ 1000 ∧ re ≤ 1000) : zp_M l yGR_hasSlot wGR_hasSlot ({ frames := 1, cells := 0, slots := 0, locals := 22 }) [.ref g, .int x, .int y] (dC, dI) vwCl [zob g 1 [.ref al, .int (nI gr), .int (nI gs), .int (nI bg), .int (nI re), .int (nI 0)], zob al 2 [.ref t, .int (nI 0), .int mo]] [] zN (fun r => r = 0) := by
  refine zp_head (cc := cGR_hasSlot) (maxL := 3) (ret := (some .boolean)) (by decide +kernel) rfl (Nat.le_of_ble_eq_true rfl) ?_
  intro p e s m below meth c ls F hP hK hX hl
  obtain ⟨hx, hb, hml, hr, hlocks, hown, hts⟩ := F
  have hown : s.vm.findClass "SpannedCells$Grid" = some m.cls := hown
  have hz : ∀ w9 ∈ zT, w9.before [.ref g, .int x, .int y].toArray s = true := fun w9 h => hts w9 (List.mem_cons_of_mem _ h)
  have hl : lv_has ls 3 [(0, .ref g), (1, .int x), (2, .int y)] := hl
  have hN := hX
  refine z_q (fun Q hQ => ?_)
  refine lv_iload_n hx hb dGR_hasSlot_0 rfl (lv_at hl 1 rfl) ?_
  refine lv_iconst (v := nI 0) hx hb dGR_hasSlot_1 (by decide) ?_
  refine lv_aload_n hx hb dGR_hasSlot_2 rfl (lv_at hl 0 rfl) ?_
  refine va_get (D := (dC, dI)) (ci := 1) (v := .int (nI 0)) (C := RGR) (T := TGR) (N := 6) hx hb hz in_GR hown hK hP 0 rfl rfl 5 (by decide) (hz _ wd_90) (fun _ h9 => h9) rfl dGR_hasSlot_3 ?_
  refine lv_iconst (v := nI 1) hx hb dGR_hasSlot_6 (by decide) ?_
  refine lv_isub hx hb dGR_hasSlot_7 ?_
  have t_a := pk_sub_toInt (a := 0) (b := 1) (by omega) (by omega)
  have t_0 := nI_toInt (n := 0) (by omega)
  refine vp_callSi (va_Run.run (va_runSN (As := [.int x, .int (nI 0), .int ((nI 0) - (nI 1))]) (rest := []) ⟨hx, hb, hml, hown, hz⟩ (f_SC_within l dC dI x (nI 0) ((nI 0) - (nI 1)) ) ⟨va_cnB 3 hz (z_gI wd_221) rfl rfl rfl (hN ("SpannedCells$Grid", 77, ySC_within, "SpannedCells") (List.mem_of_getElem? (i := 5) rfl)) (hz _ wd_29) (by decide +kernel) ⟨Nat.le_of_ble_eq_true rfl, Nat.le_of_ble_eq_true rfl⟩, (hz _ wd_220), trivial⟩ (zr_preS hK (hP.sub [] rfl) [] rfl z_true (fun _ _ _ => trivial)) rfl rfl hl.1 rfl (lv_room (Nat.le_of_ble_eq_true rfl)) dGR_hasSlot_8 ⟨Nat.le_of_ble_eq_true rfl, Nat.le_of_ble_eq_true rfl⟩)) (fun r1 h_r1 => ?_)
  have h_r1 : r1 = 0 := z_ynF h_r1 (by omega)
  subst h_r1
  refine lv_if_eq (tgt := 32) hx hb dGR_hasSlot_11 rfl (fun _ => ?_) (fun h => absurd (by decide) h)
  refine lv_iconst (v := nI 0) hx hb dGR_hasSlot_32 (by decide) ?_
  subst hQ
  exact zp_zret hx hb hr hlocks (Or.inl rfl) (rfl) dGR_hasSlot_33
