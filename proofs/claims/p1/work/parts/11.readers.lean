set_option maxHeartbeats 4000000 in
set_option maxRecDepth 100000 in
theorem c_SC_within (l : Launch) (dC : Nat → ClassId) (dI : Nat → Nat → Nat) (v : Int32) (lo : Int32) (hi : Int32) : zp_M l ySC_within wSC_within ({ frames := 0, cells := 0, slots := 0, locals := 0 }) [.int v, .int lo, .int hi] (dC, dI) vwCl [] [] (fun _ => True) (fun r => (r = 1 ∧ (lo ≤ v ∧ v ≤ hi)) ∨ (r = 0 ∧ ¬ (lo ≤ v ∧ v ≤ hi))) := by
  refine zp_head (cc := cSC_within) (maxL := 3) (ret := (some .boolean)) (by decide +kernel) rfl (Nat.le_of_ble_eq_true rfl) ?_
  intro p e s m below meth c ls F hP hK hX hl
  obtain ⟨hx, hb, hml, hr, hlocks, hown, hts⟩ := F
  have hown : s.vm.findClass "SpannedCells" = some m.cls := hown
  have hz : ∀ w9 ∈ zT, w9.before [.int v, .int lo, .int hi].toArray s = true := fun w9 h => hts w9 (List.mem_cons_of_mem _ h)
  have hl : lv_has ls 3 [(0, .int v), (1, .int lo), (2, .int hi)] := hl
  refine z_q (fun Q hQ => ?_)
  refine lv_iload_n hx hb dSC_within_0 rfl (lv_at hl 1 rfl) ?_
  refine lv_iload_n hx hb dSC_within_1 rfl (lv_at hl 0 rfl) ?_
  refine lv_icmp_gt (tgt := 14) hx hb dSC_within_2 rfl (fun h1 => ?_) (fun h1 => ?_)
  · refine lv_iconst (v := 0) hx hb dSC_within_14 (by decide) ?_
    subst hQ
    exact zp_zret hx hb hr hlocks (Or.inl rfl) (Or.inr ⟨rfl, fun h => absurd h1 (Int32.not_lt.mpr h.1)⟩) dSC_within_15
  · refine lv_iload_n hx hb dSC_within_5 rfl (lv_at hl 0 rfl) ?_
    refine lv_iload_n hx hb dSC_within_6 rfl (lv_at hl 2 rfl) ?_
    refine lv_icmp_gt (tgt := 14) hx hb dSC_within_7 rfl (fun h2 => ?_) (fun h2 => ?_)
    · refine lv_iconst (v := 0) hx hb dSC_within_14 (by decide) ?_
      subst hQ
      exact zp_zret hx hb hr hlocks (Or.inl rfl) (Or.inr ⟨rfl, fun h => absurd h2 (Int32.not_lt.mpr h.2)⟩) dSC_within_15
    · refine lv_iconst (v := 1) hx hb dSC_within_10 (by decide) ?_
      refine lv_goto (tgt := 15) hx hb dSC_within_11 rfl ?_
      subst hQ
      exact zp_zret hx hb hr hlocks (Or.inr rfl) (Or.inl ⟨rfl, Int32.not_lt.mp h1, Int32.not_lt.mp h2⟩) dSC_within_15

set_option maxHeartbeats 4000000 in
set_option maxRecDepth 100000 in
theorem c_AL_size (l : Launch) (dC : Nat → ClassId) (dI : Nat → Nat → Nat) (al : Nat) (ed : Nat) (n : Int32) (mo : Int32) : zp_M l yAL_size wAL_size ({ frames := 0, cells := 0, slots := 0, locals := 0 }) [.ref al] (dC, dI) vwCl [(al, .inr (2, [.ref ed, .int n, .int mo]))] [] (fun _ => True) (fun r => r = n) := by
  refine zp_head (cc := cAL_size) (maxL := 1) (ret := (some .int)) (by decide +kernel) rfl (Nat.le_of_ble_eq_true rfl) ?_
  intro p e s m below meth c ls F hP hK hX hl
  obtain ⟨hx, hb, hml, hr, hlocks, hown, hts⟩ := F
  have hown : s.vm.findClass "java/util/ArrayList" = some m.cls := hown
  have hz : ∀ w9 ∈ zT, w9.before [.ref al].toArray s = true := fun w9 h => hts w9 (List.mem_cons_of_mem _ h)
  have hl : lv_has ls 1 [(0, .ref al)] := hl
  refine z_q (fun Q hQ => ?_)
  refine lv_aload_n hx hb dAL_size_0 rfl (lv_at hl 0 rfl) ?_
  refine va_get (D := (dC, dI)) (ci := 2) (v := .int n) (C := RAL) (T := TAL) (N := 3) hx hb hz in_AL hown hK hP 0 rfl rfl 1 (by decide) (hz _ wd_74) (fun _ h9 => h9) rfl dAL_size_1 ?_
  subst hQ
  exact zp_iret hx hb hr hlocks (rfl) dAL_size_4

set_option maxHeartbeats 4000000 in
set_option maxRecDepth 100000 in
theorem c_GR_cellCount (l : Launch) (dC : Nat → ClassId) (dI : Nat → Nat → Nat) (g : Nat) (al : Nat) (ed : Nat) (n : Int32) (mo : Int32) (gr : Int32) (gs : Int32) (bg : Int32) (re : Int32) (ce : Int32) : zp_M l yGR_cellCount wGR_cellCount ({ frames := 1, cells := 0, slots := 0, locals := 20 }) [.ref g] (dC, dI) vwCl [(g, .inr (1, [.ref al, .int gr, .int gs, .int bg, .int re, .int ce])), (al, .inr (2, [.ref ed, .int n, .int mo]))] [] (fun _ => True) (fun r => r = n) := by
  refine zp_head (cc := cGR_cellCount) (maxL := 1) (ret := (some .int)) (by decide +kernel) rfl (Nat.le_of_ble_eq_true rfl) ?_
  intro p e s m below meth c ls F hP hK hX hl
  obtain ⟨hx, hb, hml, hr, hlocks, hown, hts⟩ := F
  have hown : s.vm.findClass "SpannedCells$Grid" = some m.cls := hown
  have hz : ∀ w9 ∈ zT, w9.before [.ref g].toArray s = true := fun w9 h => hts w9 (List.mem_cons_of_mem _ h)
  have hl : lv_has ls 1 [(0, .ref g)] := hl
  refine z_q (fun Q hQ => ?_)
  refine lv_aload_n hx hb dGR_cellCount_0 rfl (lv_at hl 0 rfl) ?_
  refine va_get (D := (dC, dI)) (ci := 1) (v := .ref al) (C := RGR) (T := TGR) (N := 6) hx hb hz in_GR hown hK hP 0 rfl rfl 0 (by decide) (hz _ wd_85) (fun _ h9 => h9) rfl dGR_cellCount_1 ?_
  refine vp_callSi (W.runV (As := []) (rest := []) ⟨hx, hb, hml, hown, hz⟩ (c_AL_size l dC dI al ed n mo ) (cwV 0 hz (z_gV wd_192 wd_193 wd_194 wd_33 wd_195) rfl rfl rfl (by decide +kernel) ⟨Nat.le_of_ble_eq_true rfl, Nat.le_of_ble_eq_true rfl⟩) (zp_preV (q0 := 1) (q := (RAL, TAL, 3)) hK hP rfl rfl [1] rfl [] rfl z_true (fun _ _ _ => trivial)) rfl rfl hl.1 rfl (lv_room (Nat.le_of_ble_eq_true rfl)) dGR_cellCount_4 ⟨Nat.le_of_ble_eq_true rfl, Nat.le_of_ble_eq_true rfl⟩) (fun r1 h_r1 => ?_)
  have h_r1 : r1 = n := h_r1
  subst h_r1
  subst hQ
  exact zp_iret hx hb hr hlocks (rfl) dGR_cellCount_7

set_option maxHeartbeats 4000000 in
set_option maxRecDepth 100000 in
theorem c_GR_columnCount (l : Launch) (dC : Nat → ClassId) (dI : Nat → Nat → Nat) (g : Nat) (al : Nat) (ed : Nat) (n : Int32) (mo : Int32) (gr : Int32) (gs : Int32) (bg : Int32) (re : Int32) (ce : Int32) : zp_M l yGR_columnCount wGR_columnCount ({ frames := 0, cells := 0, slots := 0, locals := 0 }) [.ref g] (dC, dI) vwCl [(g, .inr (1, [.ref al, .int gr, .int gs, .int bg, .int re, .int ce])), (al, .inr (2, [.ref ed, .int n, .int mo]))] [] (fun _ => True) (fun r => r = ce) := by
  refine zp_head (cc := cGR_columnCount) (maxL := 1) (ret := (some .int)) (by decide +kernel) rfl (Nat.le_of_ble_eq_true rfl) ?_
  intro p e s m below meth c ls F hP hK hX hl
  obtain ⟨hx, hb, hml, hr, hlocks, hown, hts⟩ := F
  have hown : s.vm.findClass "SpannedCells$Grid" = some m.cls := hown
  have hz : ∀ w9 ∈ zT, w9.before [.ref g].toArray s = true := fun w9 h => hts w9 (List.mem_cons_of_mem _ h)
  have hl : lv_has ls 1 [(0, .ref g)] := hl
  refine z_q (fun Q hQ => ?_)
  refine lv_aload_n hx hb dGR_columnCount_0 rfl (lv_at hl 0 rfl) ?_
  refine va_get (D := (dC, dI)) (ci := 1) (v := .int ce) (C := RGR) (T := TGR) (N := 6) hx hb hz in_GR hown hK hP 0 rfl rfl 5 (by decide) (hz _ wd_90) (fun _ h9 => h9) rfl dGR_columnCount_1 ?_
  subst hQ
  exact zp_iret hx hb hr hlocks (rfl) dGR_columnCount_4

set_option maxHeartbeats 4000000 in
set_option maxRecDepth 100000 in
theorem c_GR_rowCount (l : Launch) (dC : Nat → ClassId) (dI : Nat → Nat → Nat) (g : Nat) (al : Nat) (ed : Nat) (n : Int32) (mo : Int32) (gr : Int32) (gs : Int32) (bg : Int32) (re : Int32) (ce : Int32) : zp_M l yGR_rowCount wGR_rowCount ({ frames := 0, cells := 0, slots := 0, locals := 0 }) [.ref g] (dC, dI) vwCl [(g, .inr (1, [.ref al, .int gr, .int gs, .int bg, .int re, .int ce])), (al, .inr (2, [.ref ed, .int n, .int mo]))] [] (fun _ => True) (fun r => r = re) := by
  refine zp_head (cc := cGR_rowCount) (maxL := 1) (ret := (some .int)) (by decide +kernel) rfl (Nat.le_of_ble_eq_true rfl) ?_
  intro p e s m below meth c ls F hP hK hX hl
  obtain ⟨hx, hb, hml, hr, hlocks, hown, hts⟩ := F
  have hown : s.vm.findClass "SpannedCells$Grid" = some m.cls := hown
  have hz : ∀ w9 ∈ zT, w9.before [.ref g].toArray s = true := fun w9 h => hts w9 (List.mem_cons_of_mem _ h)
  have hl : lv_has ls 1 [(0, .ref g)] := hl
  refine z_q (fun Q hQ => ?_)
  refine lv_aload_n hx hb dGR_rowCount_0 rfl (lv_at hl 0 rfl) ?_
  refine va_get (D := (dC, dI)) (ci := 1) (v := .int re) (C := RGR) (T := TGR) (N := 6) hx hb hz in_GR hown hK hP 0 rfl rfl 4 (by decide) (hz _ wd_89) (fun _ h9 => h9) rfl dGR_rowCount_1 ?_
  subst hQ
  exact zp_iret hx hb hr hlocks (rfl) dGR_rowCount_4

set_option maxHeartbeats 4000000 in
set_option maxRecDepth 100000 in
theorem c_GR_hasCell (l : Launch) (dC : Nat → ClassId) (dI : Nat → Nat → Nat) (g : Nat) (al : Nat) (ed : Nat) (mo : Int32) (k : Int32) : zp_M l yGR_hasCell wGR_hasCell ({ frames := 1, cells := 0, slots := 0, locals := 20 }) [.ref g, .int k] (dC, dI) vwCl [(g, .inr (1, [.ref al, .int 1, .int 0, .int 0, .int 0, .int 0])), (al, .inr (2, [.ref ed, .int 0, .int mo]))] [] (fun _ => True) (fun r => r = 0) := by
  refine zp_head (cc := cGR_hasCell) (maxL := 2) (ret := (some .boolean)) (by decide +kernel) rfl (Nat.le_of_ble_eq_true rfl) ?_
  intro p e s m below meth c ls F hP hK hX hl
  obtain ⟨hx, hb, hml, hr, hlocks, hown, hts⟩ := F
  have hown : s.vm.findClass "SpannedCells$Grid" = some m.cls := hown
  have hz : ∀ w9 ∈ zT, w9.before [.ref g, .int k].toArray s = true := fun w9 h => hts w9 (List.mem_cons_of_mem _ h)
  have hl : lv_has ls 2 [(0, .ref g), (1, .int k)] := hl
  refine z_q (fun Q hQ => ?_)
  refine lv_iconst (v := 0) hx hb dGR_hasCell_0 (by decide) ?_
  refine lv_iload_n hx hb dGR_hasCell_1 rfl (lv_at hl 1 rfl) ?_
  refine lv_icmp_gt (tgt := 20) hx hb dGR_hasCell_2 rfl (fun h1 => ?_) (fun h1 => ?_)
  · refine lv_iconst (v := 0) hx hb dGR_hasCell_20 (by decide) ?_
    subst hQ
    exact zp_zret hx hb hr hlocks (Or.inl rfl) (rfl) dGR_hasCell_21
  · refine lv_iload_n hx hb dGR_hasCell_5 rfl (lv_at hl 1 rfl) ?_
    refine lv_aload_n hx hb dGR_hasCell_6 rfl (lv_at hl 0 rfl) ?_
    refine va_get (D := (dC, dI)) (ci := 1) (v := .ref al) (C := RGR) (T := TGR) (N := 6) hx hb hz in_GR hown hK hP 0 rfl rfl 0 (by decide) (hz _ wd_85) (fun _ h9 => h9) rfl dGR_hasCell_7 ?_
    refine vp_callSi (W.runV (As := []) (rest := [.int k]) ⟨hx, hb, hml, hown, hz⟩ (c_AL_size l dC dI al ed 0 mo ) (cwV 0 hz (z_gV wd_192 wd_193 wd_194 wd_33 wd_195) rfl rfl rfl (by decide +kernel) ⟨Nat.le_of_ble_eq_true rfl, Nat.le_of_ble_eq_true rfl⟩) (zp_preV (q0 := 1) (q := (RAL, TAL, 3)) hK hP rfl rfl [1] rfl [] rfl z_true (fun _ _ _ => trivial)) rfl rfl hl.1 rfl (lv_room (Nat.le_of_ble_eq_true rfl)) dGR_hasCell_10 ⟨Nat.le_of_ble_eq_true rfl, Nat.le_of_ble_eq_true rfl⟩) (fun r2 h_r2 => ?_)
    have h_r2 : r2 = 0 := h_r2
    subst h_r2
    refine lv_icmp_ge (tgt := 20) hx hb dGR_hasCell_13 rfl (fun _ => ?_) (fun h => absurd (Int32.not_lt.mp h1) h)
    refine lv_iconst (v := 0) hx hb dGR_hasCell_20 (by decide) ?_
    subst hQ
    exact zp_zret hx hb hr hlocks (Or.inl rfl) (rfl) dGR_hasCell_21
