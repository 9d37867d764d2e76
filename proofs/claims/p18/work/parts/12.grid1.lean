set_option maxHeartbeats 4000000 in
set_option maxRecDepth 100000 in
theorem f_GR_cellAt (l : Launch) (dC : Nat → ClassId) (dI : Nat → Nat → Nat) (g : Nat) (gr : Nat) (gs : Nat) (bg : Nat) (re : Nat) (ce : Nat) (al : Nat) (ed : Nat) (cE : ClassId) (cap : Nat) (a : Nat → Option Nat) (mo : Int32) (n : Nat) (ad : Nat → Nat) (d : Nat → Nat → Nat) (k : Nat) (hn : n ≤ cap) (hc : cap < 2147483648) (ha : ∀ k, k < n → a k = some (ad k)) (hd : ∀ j k, k < n → d j k ≤ 1000) (hg : gr ≤ 1000 ∧ gs ≤ 1000 ∧ bg ≤ 1000 ∧ re ≤ 1000 ∧ ce ≤ 1000) (hk : k < n) : zp_Mr l yGR_cellAt wGR_cellAt ({ frames := 3, cells := 0, slots := 0, locals := 64 }) [.ref g, .int (nI k)] (dC, dI) vwCl ([zob g 1 [.ref al, .int (nI gr), .int (nI gs), .int (nI bg), .int (nI re), .int (nI ce)], zob al 2 [.ref ed, .int (nI n), .int mo], zrf ed cE cap a] ++ zcs n ad (zcf d)) [(cE, .object "java/lang/Object")] (fun _ => True) (fun a => a = ad k) := by
  refine zp_headr (cc := cGR_cellAt) (maxL := 2) (ret := (some (.object "SpannedCells$Cell"))) (by decide +kernel) rfl (Nat.le_of_ble_eq_true rfl) ?_
  intro p e s m below meth c ls F hP hK hX hl
  obtain ⟨hx, hb, hml, hr, hlocks, hown, hts⟩ := F
  have hown : s.vm.findClass "SpannedCells$Grid" = some m.cls := hown
  have hz : ∀ w9 ∈ zT, w9.before [.ref g, .int (nI k)].toArray s = true := fun w9 h => hts w9 (List.mem_cons_of_mem _ h)
  have hl : lv_has ls 2 [(0, .ref g), (1, .int (nI k))] := hl
  refine z_q (fun Q hQ => ?_)
  refine lv_aload_n hx hb dGR_cellAt_0 rfl (lv_at hl 0 rfl) ?_
  refine va_get (D := (dC, dI)) (ci := 1) (v := .ref al) (C := RGR) (T := TGR) (N := 6) hx hb hz in_GR hown hK hP 0 rfl rfl 0 (by decide) (hz _ wd_85) (fun _ h9 => h9) rfl dGR_cellAt_1 ?_
  refine lv_iload_n hx hb dGR_cellAt_4 rfl (lv_at hl 1 rfl) ?_
  refine va_csr (W.runV (As := [.int (nI k)]) (rest := []) ⟨hx, hb, hml, hown, hz⟩ (f_AL_get l dC dI al ed cE cap a mo n k (ad k) (by omega) (by omega) (by omega) (ha _ (by omega))) (cwV 1 hz (z_gV wd_196 wd_197 wd_198 wd_33 wd_199) rfl rfl rfl (by decide +kernel) ⟨Nat.le_of_ble_eq_true rfl, Nat.le_of_ble_eq_true rfl⟩) (zr_preV hK (hP.sub [1, 2] rfl) (va_recv (q0 := 1) hK hP (q := (RAL, TAL, 3)) rfl rfl) [0] rfl z_true (fun _ _ _ => trivial)) rfl rfl hl.1 rfl (lv_room (Nat.le_of_ble_eq_true rfl)) dGR_cellAt_5 ⟨Nat.le_of_ble_eq_true rfl, Nat.le_of_ble_eq_true rfl⟩) (fun r1 h_r1 => ?_)
  have h_r1 : r1 = (ad k) := h_r1
  subst h_r1
  refine va_castE hx hb hown (hz _ wd_210) (va_recv hK hP (q := (RCE, TCE, 10)) rfl (zcs_get rfl (by omega))) dGR_cellAt_8 ?_
  subst hQ
  exact zp_aret hx hb hr (Or.inl ⟨_, rfl⟩) hlocks (rfl) dGR_cellAt_11

set_option maxHeartbeats 4000000 in
set_option maxRecDepth 100000 in
theorem f_GR_cellCount (l : Launch) (dC : Nat → ClassId) (dI : Nat → Nat → Nat) (g : Nat) (gr : Nat) (gs : Nat) (bg : Nat) (re : Nat) (ce : Nat) (al : Nat) (ed : Nat) (cE : ClassId) (cap : Nat) (a : Nat → Option Nat) (mo : Int32) (n : Nat) (ad : Nat → Nat) (d : Nat → Nat → Nat) (hn : n ≤ cap) (hc : cap < 2147483648) (ha : ∀ k, k < n → a k = some (ad k)) (hd : ∀ j k, k < n → d j k ≤ 1000) (hg : gr ≤ 1000 ∧ gs ≤ 1000 ∧ bg ≤ 1000 ∧ re ≤ 1000 ∧ ce ≤ 1000) : zp_M l yGR_cellCount wGR_cellCount ({ frames := 1, cells := 0, slots := 0, locals := 20 }) [.ref g] (dC, dI) vwCl ([zob g 1 [.ref al, .int (nI gr), .int (nI gs), .int (nI bg), .int (nI re), .int (nI ce)], zob al 2 [.ref ed, .int (nI n), .int mo], zrf ed cE cap a] ++ zcs n ad (zcf d)) [(cE, .object "java/lang/Object")] (fun _ => True) (fun r => r = nI n) := by
  refine zp_head (cc := cGR_cellCount) (maxL := 1) (ret := (some .int)) (by decide +kernel) rfl (Nat.le_of_ble_eq_true rfl) ?_
  intro p e s m below meth c ls F hP hK hX hl
  obtain ⟨hx, hb, hml, hr, hlocks, hown, hts⟩ := F
  have hown : s.vm.findClass "SpannedCells$Grid" = some m.cls := hown
  have hz : ∀ w9 ∈ zT, w9.before [.ref g].toArray s = true := fun w9 h => hts w9 (List.mem_cons_of_mem _ h)
  have hl : lv_has ls 1 [(0, .ref g)] := hl
  refine z_q (fun Q hQ => ?_)
  refine lv_aload_n hx hb dGR_cellCount_0 rfl (lv_at hl 0 rfl) ?_
  refine va_get (D := (dC, dI)) (ci := 1) (v := .ref al) (C := RGR) (T := TGR) (N := 6) hx hb hz in_GR hown hK hP 0 rfl rfl 0 (by decide) (hz _ wd_85) (fun _ h9 => h9) rfl dGR_cellCount_1 ?_
  refine vp_callSi (W.runV (As := []) (rest := []) ⟨hx, hb, hml, hown, hz⟩ (f_AL_size l dC dI al ed mo n ) (cwV 0 hz (z_gV wd_192 wd_193 wd_194 wd_33 wd_195) rfl rfl rfl (by decide +kernel) ⟨Nat.le_of_ble_eq_true rfl, Nat.le_of_ble_eq_true rfl⟩) (zr_preV hK (hP.sub [1] rfl) (va_recv (q0 := 1) hK hP (q := (RAL, TAL, 3)) rfl rfl) [] rfl z_true (fun _ _ _ => trivial)) rfl rfl hl.1 rfl (lv_room (Nat.le_of_ble_eq_true rfl)) dGR_cellCount_4 ⟨Nat.le_of_ble_eq_true rfl, Nat.le_of_ble_eq_true rfl⟩) (fun r1 h_r1 => ?_)
  have h_r1 : r1 = nI n := h_r1
  subst h_r1
  subst hQ
  exact zp_iret hx hb hr hlocks (rfl) dGR_cellCount_7

set_option maxHeartbeats 4000000 in
set_option maxRecDepth 100000 in
theorem f_GR_columnCount (l : Launch) (dC : Nat → ClassId) (dI : Nat → Nat → Nat) (g : Nat) (gr : Nat) (gs : Nat) (bg : Nat) (re : Nat) (ce : Nat) (al : Nat) (ed : Nat) (cE : ClassId) (cap : Nat) (a : Nat → Option Nat) (mo : Int32) (n : Nat) (ad : Nat → Nat) (d : Nat → Nat → Nat) (hn : n ≤ cap) (hc : cap < 2147483648) (ha : ∀ k, k < n → a k = some (ad k)) (hd : ∀ j k, k < n → d j k ≤ 1000) (hg : gr ≤ 1000 ∧ gs ≤ 1000 ∧ bg ≤ 1000 ∧ re ≤ 1000 ∧ ce ≤ 1000) : zp_M l yGR_columnCount wGR_columnCount ({ frames := 0, cells := 0, slots := 0, locals := 0 }) [.ref g] (dC, dI) vwCl ([zob g 1 [.ref al, .int (nI gr), .int (nI gs), .int (nI bg), .int (nI re), .int (nI ce)], zob al 2 [.ref ed, .int (nI n), .int mo], zrf ed cE cap a] ++ zcs n ad (zcf d)) [(cE, .object "java/lang/Object")] (fun _ => True) (fun r => r = nI ce) := by
  refine zp_head (cc := cGR_columnCount) (maxL := 1) (ret := (some .int)) (by decide +kernel) rfl (Nat.le_of_ble_eq_true rfl) ?_
  intro p e s m below meth c ls F hP hK hX hl
  obtain ⟨hx, hb, hml, hr, hlocks, hown, hts⟩ := F
  have hown : s.vm.findClass "SpannedCells$Grid" = some m.cls := hown
  have hz : ∀ w9 ∈ zT, w9.before [.ref g].toArray s = true := fun w9 h => hts w9 (List.mem_cons_of_mem _ h)
  have hl : lv_has ls 1 [(0, .ref g)] := hl
  refine z_q (fun Q hQ => ?_)
  refine lv_aload_n hx hb dGR_columnCount_0 rfl (lv_at hl 0 rfl) ?_
  refine va_get (D := (dC, dI)) (ci := 1) (v := .int (nI ce)) (C := RGR) (T := TGR) (N := 6) hx hb hz in_GR hown hK hP 0 rfl rfl 5 (by decide) (hz _ wd_90) (fun _ h9 => h9) rfl dGR_columnCount_1 ?_
  subst hQ
  exact zp_iret hx hb hr hlocks (rfl) dGR_columnCount_4

set_option maxHeartbeats 4000000 in
set_option maxRecDepth 100000 in
theorem f_GR_rowCount (l : Launch) (dC : Nat → ClassId) (dI : Nat → Nat → Nat) (g : Nat) (gr : Nat) (gs : Nat) (bg : Nat) (re : Nat) (ce : Nat) (al : Nat) (ed : Nat) (cE : ClassId) (cap : Nat) (a : Nat → Option Nat) (mo : Int32) (n : Nat) (ad : Nat → Nat) (d : Nat → Nat → Nat) (hn : n ≤ cap) (hc : cap < 2147483648) (ha : ∀ k, k < n → a k = some (ad k)) (hd : ∀ j k, k < n → d j k ≤ 1000) (hg : gr ≤ 1000 ∧ gs ≤ 1000 ∧ bg ≤ 1000 ∧ re ≤ 1000 ∧ ce ≤ 1000) : zp_M l yGR_rowCount wGR_rowCount ({ frames := 0, cells := 0, slots := 0, locals := 0 }) [.ref g] (dC, dI) vwCl ([zob g 1 [.ref al, .int (nI gr), .int (nI gs), .int (nI bg), .int (nI re), .int (nI ce)], zob al 2 [.ref ed, .int (nI n), .int mo], zrf ed cE cap a] ++ zcs n ad (zcf d)) [(cE, .object "java/lang/Object")] (fun _ => True) (fun r => r = nI re) := by
  refine zp_head (cc := cGR_rowCount) (maxL := 1) (ret := (some .int)) (by decide +kernel) rfl (Nat.le_of_ble_eq_true rfl) ?_
  intro p e s m below meth c ls F hP hK hX hl
  obtain ⟨hx, hb, hml, hr, hlocks, hown, hts⟩ := F
  have hown : s.vm.findClass "SpannedCells$Grid" = some m.cls := hown
  have hz : ∀ w9 ∈ zT, w9.before [.ref g].toArray s = true := fun w9 h => hts w9 (List.mem_cons_of_mem _ h)
  have hl : lv_has ls 1 [(0, .ref g)] := hl
  refine z_q (fun Q hQ => ?_)
  refine lv_aload_n hx hb dGR_rowCount_0 rfl (lv_at hl 0 rfl) ?_
  refine va_get (D := (dC, dI)) (ci := 1) (v := .int (nI re)) (C := RGR) (T := TGR) (N := 6) hx hb hz in_GR hown hK hP 0 rfl rfl 4 (by decide) (hz _ wd_89) (fun _ h9 => h9) rfl dGR_rowCount_1 ?_
  subst hQ
  exact zp_iret hx hb hr hlocks (rfl) dGR_rowCount_4

set_option maxHeartbeats 4000000 in
set_option maxRecDepth 100000 in
theorem f_GR_hasCell (l : Launch) (dC : Nat → ClassId) (dI : Nat → Nat → Nat) (g : Nat) (gr : Nat) (gs : Nat) (bg : Nat) (re : Nat) (ce : Nat) (al : Nat) (ed : Nat) (cE : ClassId) (cap : Nat) (a : Nat → Option Nat) (mo : Int32) (n : Nat) (ad : Nat → Nat) (d : Nat → Nat → Nat) (k : Int32) (hn : n ≤ cap) (hc : cap < 2147483648) (ha : ∀ k, k < n → a k = some (ad k)) (hd : ∀ j k, k < n → d j k ≤ 1000) (hg : gr ≤ 1000 ∧ gs ≤ 1000 ∧ bg ≤ 1000 ∧ re ≤ 1000 ∧ ce ≤ 1000) : zp_M l yGR_hasCell wGR_hasCell ({ frames := 1, cells := 0, slots := 0, locals := 20 }) [.ref g, .int k] (dC, dI) vwCl ([zob g 1 [.ref al, .int (nI gr), .int (nI gs), .int (nI bg), .int (nI re), .int (nI ce)], zob al 2 [.ref ed, .int (nI n), .int mo], zrf ed cE cap a] ++ zcs n ad (zcf d)) [(cE, .object "java/lang/Object")] (fun _ => True) (fun r => z_yn r (0 ≤ k.toInt ∧ k.toInt < n)) := by
  refine zp_head (cc := cGR_hasCell) (maxL := 2) (ret := (some .boolean)) (by decide +kernel) rfl (Nat.le_of_ble_eq_true rfl) ?_
  intro p e s m below meth c ls F hP hK hX hl
  obtain ⟨hx, hb, hml, hr, hlocks, hown, hts⟩ := F
  have hown : s.vm.findClass "SpannedCells$Grid" = some m.cls := hown
  have hz : ∀ w9 ∈ zT, w9.before [.ref g, .int k].toArray s = true := fun w9 h => hts w9 (List.mem_cons_of_mem _ h)
  have hl : lv_has ls 2 [(0, .ref g), (1, .int k)] := hl
  refine z_q (fun Q hQ => ?_)
  refine lv_iconst (v := nI 0) hx hb dGR_hasCell_0 (by decide) ?_
  refine lv_iload_n hx hb dGR_hasCell_1 rfl (lv_at hl 1 rfl) ?_
  have t1 := nI_toInt (n := 0) (by omega)
  refine lv_icmp_gt (tgt := 20) hx hb dGR_hasCell_2 rfl (fun h2 => ?_) (fun h2 => ?_)
  · have h2 := z_lt h2
    refine lv_iconst (v := nI 0) hx hb dGR_hasCell_20 (by decide) ?_
    subst hQ
    exact zp_zret hx hb hr hlocks (Or.inl rfl) (z_y0 (by omega)) dGR_hasCell_21
  · have h2 := z_nlt h2
    refine lv_iload_n hx hb dGR_hasCell_5 rfl (lv_at hl 1 rfl) ?_
    refine lv_aload_n hx hb dGR_hasCell_6 rfl (lv_at hl 0 rfl) ?_
    refine va_get (D := (dC, dI)) (ci := 1) (v := .ref al) (C := RGR) (T := TGR) (N := 6) hx hb hz in_GR hown hK hP 0 rfl rfl 0 (by decide) (hz _ wd_85) (fun _ h9 => h9) rfl dGR_hasCell_7 ?_
    refine vp_callSi (W.runV (As := []) (rest := [.int k]) ⟨hx, hb, hml, hown, hz⟩ (f_AL_size l dC dI al ed mo n ) (cwV 0 hz (z_gV wd_192 wd_193 wd_194 wd_33 wd_195) rfl rfl rfl (by decide +kernel) ⟨Nat.le_of_ble_eq_true rfl, Nat.le_of_ble_eq_true rfl⟩) (zr_preV hK (hP.sub [1] rfl) (va_recv (q0 := 1) hK hP (q := (RAL, TAL, 3)) rfl rfl) [] rfl z_true (fun _ _ _ => trivial)) rfl rfl hl.1 rfl (lv_room (Nat.le_of_ble_eq_true rfl)) dGR_hasCell_10 ⟨Nat.le_of_ble_eq_true rfl, Nat.le_of_ble_eq_true rfl⟩) (fun r3 h_r3 => ?_)
    have h_r3 : r3 = nI n := h_r3
    subst h_r3
    have t4 := nI_toInt (n := n) (by omega)
    refine lv_icmp_ge (tgt := 20) hx hb dGR_hasCell_13 rfl (fun h5 => ?_) (fun h5 => ?_)
    · have h5 := z_le h5
      refine lv_iconst (v := nI 0) hx hb dGR_hasCell_20 (by decide) ?_
      subst hQ
      exact zp_zret hx hb hr hlocks (Or.inl rfl) (z_y0 (by omega)) dGR_hasCell_21
    · have h5 := z_nle h5
      refine lv_iconst (v := nI 1) hx hb dGR_hasCell_16 (by decide) ?_
      refine lv_goto (tgt := 21) hx hb dGR_hasCell_17 rfl ?_
      subst hQ
      exact zp_zret hx hb hr hlocks (Or.inr rfl) (z_y1 (by omega)) dGR_hasCell_21

set_option maxHeartbeats 4000000 in
set_option maxRecDepth 100000 in
theorem f_GR_ownerOf (l : Launch) (dC : Nat → ClassId) (dI : Nat → Nat → Nat) (g : Nat) (gr : Nat) (gs : Nat) (bg : Nat) (re : Nat) (ce : Nat) (al : Nat) (ed : Nat) (cE : ClassId) (cap : Nat) (a : Nat → Option Nat) (mo : Int32) (n : Nat) (ad : Nat → Nat) (d : Nat → Nat → Nat) (x : Int32) (y : Int32) (hn : n ≤ cap) (hc : cap < 2147483648) (ha : ∀ k, k < n → a k = some (ad k)) (hd : ∀ j k, k < n → d j k ≤ 1000) (hg : gr ≤ 1000 ∧ gs ≤ 1000 ∧ bg ≤ 1000 ∧ re ≤ 1000 ∧ ce ≤ 1000) : zp_M l yGR_ownerOf wGR_ownerOf ({ frames := 3, cells := 0, slots := 0, locals := 64 }) [.ref g, .int x, .int y] (dC, dI) vwCl ([zob g 1 [.ref al, .int (nI gr), .int (nI gs), .int (nI bg), .int (nI re), .int (nI ce)], zob al 2 [.ref ed, .int (nI n), .int mo], zrf ed cE cap a] ++ zcs n ad (zcf d)) [(cE, .object "java/lang/Object")] (fun _ => True) (fun r => zFst n (fun k => zTd d k x y) r) := by
  refine zp_head (cc := cGR_ownerOf) (maxL := 4) (ret := (some .int)) (by decide +kernel) rfl (Nat.le_of_ble_eq_true rfl) ?_
  intro p e s m below meth c ls F hP hK hX hl
  obtain ⟨hx, hb, hml, hr, hlocks, hown, hts⟩ := F
  have hown : s.vm.findClass "SpannedCells$Grid" = some m.cls := hown
  have hz : ∀ w9 ∈ zT, w9.before [.ref g, .int x, .int y].toArray s = true := fun w9 h => hts w9 (List.mem_cons_of_mem _ h)
  have hl : lv_has ls 4 [(0, .ref g), (1, .int x), (2, .int y)] := hl
  refine z_q (fun Q hQ => ?_)
  refine lv_iconst (v := nI 0) hx hb dGR_ownerOf_0 (by decide) ?_
  refine lv_istore_n hx hb dGR_ownerOf_1 rfl hl (Nat.le_of_ble_eq_true rfl) rfl (fun ls hl => ?_)
  have hl : lv_has ls 4 [(3, .int (nI 0)), (0, .ref g), (1, .int x), (2, .int y)] := hl
  refine zl_up (σ := Unit) n (fun i x9 ls => lv_has ls 4 [(3, .int (nI i)), (2, .int y), (1, .int x), (0, .ref g)] ∧ (∀ k, k < i → ¬ zTd d k x y)) ?_ ?_ 0 (Nat.zero_le _) () ls ⟨lv_sub hl [0, 3, 2, 1] rfl, fun k hk => absurd hk (Nat.not_lt_zero _)⟩
  · intro x9 ls hI
    obtain ⟨hl, hxI⟩ := hI
    have hl : lv_has ls 4 [(3, .int (nI n)), (2, .int y), (1, .int x), (0, .ref g)] := hl
    refine lv_iload_n hx hb dGR_ownerOf_2 rfl (lv_at hl 0 rfl) ?_
    refine lv_aload_n hx hb dGR_ownerOf_3 rfl (lv_at hl 3 rfl) ?_
    refine va_get (D := (dC, dI)) (ci := 1) (v := .ref al) (C := RGR) (T := TGR) (N := 6) hx hb hz in_GR hown hK hP 0 rfl rfl 0 (by decide) (hz _ wd_85) (fun _ h9 => h9) rfl dGR_ownerOf_4 ?_
    refine vp_callSi (W.runV (As := []) (rest := [.int (nI n)]) ⟨hx, hb, hml, hown, hz⟩ (f_AL_size l dC dI al ed mo n ) (cwV 0 hz (z_gV wd_192 wd_193 wd_194 wd_33 wd_195) rfl rfl rfl (by decide +kernel) ⟨Nat.le_of_ble_eq_true rfl, Nat.le_of_ble_eq_true rfl⟩) (zr_preV hK (hP.sub [1] rfl) (va_recv (q0 := 1) hK hP (q := (RAL, TAL, 3)) rfl rfl) [] rfl z_true (fun _ _ _ => trivial)) rfl rfl hl.1 rfl (lv_room (Nat.le_of_ble_eq_true rfl)) dGR_ownerOf_7 ⟨Nat.le_of_ble_eq_true rfl, Nat.le_of_ble_eq_true rfl⟩) (fun r1 h_r1 => ?_)
    have h_r1 : r1 = nI n := h_r1
    subst h_r1
    have t2 := nI_toInt (n := n) (by omega)
    have t3 := nI_toInt (n := n) (by omega)
    refine lv_icmp_ge (tgt := 40) hx hb dGR_ownerOf_10 rfl (fun _ => ?_) (fun h => by have h := z_nle h; omega)
    refine lv_iconst (v := (-1)) hx hb dGR_ownerOf_40 (by decide) ?_
    subst hQ
    exact zp_iret hx hb hr hlocks (Or.inl ⟨rfl, hxI⟩) dGR_ownerOf_41
  · intro i hi ih
    intro x9 ls hI
    obtain ⟨hl, hxI⟩ := hI
    have hl : lv_has ls 4 [(3, .int (nI i)), (2, .int y), (1, .int x), (0, .ref g)] := hl
    refine lv_iload_n hx hb dGR_ownerOf_2 rfl (lv_at hl 0 rfl) ?_
    refine lv_aload_n hx hb dGR_ownerOf_3 rfl (lv_at hl 3 rfl) ?_
    refine va_get (D := (dC, dI)) (ci := 1) (v := .ref al) (C := RGR) (T := TGR) (N := 6) hx hb hz in_GR hown hK hP 0 rfl rfl 0 (by decide) (hz _ wd_85) (fun _ h9 => h9) rfl dGR_ownerOf_4 ?_
    refine vp_callSi (W.runV (As := []) (rest := [.int (nI i)]) ⟨hx, hb, hml, hown, hz⟩ (f_AL_size l dC dI al ed mo n ) (cwV 0 hz (z_gV wd_192 wd_193 wd_194 wd_33 wd_195) rfl rfl rfl (by decide +kernel) ⟨Nat.le_of_ble_eq_true rfl, Nat.le_of_ble_eq_true rfl⟩) (zr_preV hK (hP.sub [1] rfl) (va_recv (q0 := 1) hK hP (q := (RAL, TAL, 3)) rfl rfl) [] rfl z_true (fun _ _ _ => trivial)) rfl rfl hl.1 rfl (lv_room (Nat.le_of_ble_eq_true rfl)) dGR_ownerOf_7 ⟨Nat.le_of_ble_eq_true rfl, Nat.le_of_ble_eq_true rfl⟩) (fun r4 h_r4 => ?_)
    have h_r4 : r4 = nI n := h_r4
    subst h_r4
    have t5 := nI_toInt (n := i) (by omega)
    have t6 := nI_toInt (n := n) (by omega)
    refine lv_icmp_ge (tgt := 40) hx hb dGR_ownerOf_10 rfl (fun h => by have h := z_le h; omega) (fun _ => ?_)
    refine lv_aload_n hx hb dGR_ownerOf_13 rfl (lv_at hl 3 rfl) ?_
    refine va_get (D := (dC, dI)) (ci := 1) (v := .ref al) (C := RGR) (T := TGR) (N := 6) hx hb hz in_GR hown hK hP 0 rfl rfl 0 (by decide) (hz _ wd_85) (fun _ h9 => h9) rfl dGR_ownerOf_14 ?_
    refine lv_iload_n hx hb dGR_ownerOf_17 rfl (lv_at hl 0 rfl) ?_
    refine va_csr (W.runV (As := [.int (nI i)]) (rest := []) ⟨hx, hb, hml, hown, hz⟩ (f_AL_get l dC dI al ed cE cap a mo n i (ad i) (by omega) (by omega) (by omega) (ha _ (by omega))) (cwV 1 hz (z_gV wd_196 wd_197 wd_198 wd_33 wd_199) rfl rfl rfl (by decide +kernel) ⟨Nat.le_of_ble_eq_true rfl, Nat.le_of_ble_eq_true rfl⟩) (zr_preV hK (hP.sub [1, 2] rfl) (va_recv (q0 := 1) hK hP (q := (RAL, TAL, 3)) rfl rfl) [0] rfl z_true (fun _ _ _ => trivial)) rfl rfl hl.1 rfl (lv_room (Nat.le_of_ble_eq_true rfl)) dGR_ownerOf_18 ⟨Nat.le_of_ble_eq_true rfl, Nat.le_of_ble_eq_true rfl⟩) (fun r7 h_r7 => ?_)
    have h_r7 : r7 = (ad i) := h_r7
    subst h_r7
    refine va_castE hx hb hown (hz _ wd_210) (va_recv hK hP (q := (RCE, TCE, 10)) rfl (zcs_get rfl (by omega))) dGR_ownerOf_21 ?_
    refine lv_iload_n hx hb dGR_ownerOf_24 rfl (lv_at hl 2 rfl) ?_
    refine lv_iload_n hx hb dGR_ownerOf_25 rfl (lv_at hl 1 rfl) ?_
    refine vp_callSi (W.runV (As := [.int x, .int y]) (rest := []) ⟨hx, hb, hml, hown, hz⟩ (f_CE_takes l dC dI (ad i) (d 0 i) (d 1 i) (d 2 i) (d 3 i) (d 4 i) (d 5 i) (d 6 i) (d 7 i) (d 8 i) (d 9 i) x y (by have := hd 0 i hi; have := hd 2 i hi; omega) (by have := hd 1 i hi; have := hd 7 i hi; omega)) (cwV 2 hz (z_gV wd_234 wd_235 wd_236 wd_41 wd_237) rfl rfl rfl (by decide +kernel) ⟨Nat.le_of_ble_eq_true rfl, Nat.le_of_ble_eq_true rfl⟩) (zr_preV hK (zt_one hP (zcs_get rfl (by omega))) (va_recv hK hP (q := (RCE, TCE, 10)) rfl (zcs_get rfl (by omega))) [] rfl z_true (fun _ _ _ => trivial)) rfl rfl hl.1 rfl (lv_room (Nat.le_of_ble_eq_true rfl)) dGR_ownerOf_26 ⟨Nat.le_of_ble_eq_true rfl, Nat.le_of_ble_eq_true rfl⟩) (fun rt h_rt => ?_)
    have h_rt : z_yn rt (zTk (d 0 i) (d 2 i) (d 1 i) (d 7 i) x y) := h_rt
    refine lv_if_eq (tgt := 34) hx hb dGR_ownerOf_29 rfl (fun h_b => ?_) (fun h_b => ?_)
    · refine lv_iinc (k := 0) (v := nI (i + 1)) hx hb dGR_ownerOf_34 hl rfl (by rw [show Int32.ofInt 1 = nI 1 from by decide]; exact nI_add _ _) (Nat.le_of_ble_eq_true rfl) rfl (fun ls hl => ?_)
      have hl : lv_has ls 4 [(3, .int (nI (i + 1))), (2, .int y), (1, .int x), (0, .ref g)] := hl
      refine lv_goto (tgt := 2) hx hb dGR_ownerOf_37 rfl ?_
      exact ih () ls ⟨lv_sub hl [0, 1, 2, 3] rfl, lt_s hxI (z_yF h_rt h_b)⟩
    · refine lv_iload_n hx hb dGR_ownerOf_32 rfl (lv_at hl 0 rfl) ?_
      subst hQ
      exact zp_iret hx hb hr hlocks (Or.inr ⟨i, hi, rfl, z_yT h_rt h_b, hxI⟩) dGR_ownerOf_33
