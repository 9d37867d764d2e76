set_option maxHeartbeats 4000000 in
set_option maxRecDepth 100000 in
theorem f_GR_beginsInColumn (l : Launch) (dC : Nat → ClassId) (dI : Nat → Nat → Nat) (g : Nat) (gr : Nat) (gs : Nat) (bg : Nat) (re : Nat) (ce : Nat) (al : Nat) (ed : Nat) (cE : ClassId) (cap : Nat) (a : Nat → Option Nat) (mo : Int32) (n : Nat) (ad : Nat → Nat) (d : Nat → Nat → Nat) (x : Nat) (hn : n ≤ cap) (hc : cap < 2147483648) (ha : ∀ k, k < n → a k = some (ad k)) (hd : ∀ j k, k < n → d j k ≤ 1000) (hg : gr ≤ 1000 ∧ gs ≤ 1000 ∧ bg ≤ 1000 ∧ re ≤ 1000 ∧ ce ≤ 1000) (hx0 : x < 2147483648) : zp_M l yGR_beginsInColumn wGR_beginsInColumn ({ frames := 3, cells := 0, slots := 0, locals := 64 }) [.ref g, .int (nI x)] (dC, dI) vwCl ([zob g 1 [.ref al, .int (nI gr), .int (nI gs), .int (nI bg), .int (nI re), .int (nI ce)], zob al 2 [.ref ed, .int (nI n), .int mo], zrf ed cE cap a] ++ zcs n ad (zcf d)) [(cE, .object "java/lang/Object")] (fun _ => True) (fun r => z_yn r (∃ k, k < n ∧ d 0 k = x)) := by
  refine zp_head (cc := cGR_beginsInColumn) (maxL := 3) (ret := (some .boolean)) (by decide +kernel) rfl (Nat.le_of_ble_eq_true rfl) ?_
  intro p e s m below meth c ls F hP hK hX hl
  obtain ⟨hx, hb, hml, hr, hlocks, hown, hts⟩ := F
  have hown : s.vm.findClass "SpannedCells$Grid" = some m.cls := hown
  have hz : ∀ w9 ∈ zT, w9.before [.ref g, .int (nI x)].toArray s = true := fun w9 h => hts w9 (List.mem_cons_of_mem _ h)
  have hl : lv_has ls 3 [(0, .ref g), (1, .int (nI x))] := hl
  refine z_q (fun Q hQ => ?_)
  refine lv_iconst (v := nI 0) hx hb dGR_beginsInColumn_0 (by decide) ?_
  refine lv_istore_n hx hb dGR_beginsInColumn_1 rfl hl (Nat.le_of_ble_eq_true rfl) rfl (fun ls hl => ?_)
  have hl : lv_has ls 3 [(2, .int (nI 0)), (0, .ref g), (1, .int (nI x))] := hl
  refine zl_up (σ := Unit) n (fun i x9 ls => lv_has ls 3 [(2, .int (nI i)), (1, .int (nI x)), (0, .ref g)] ∧ (∀ k, k < i → ¬ d 0 k = x)) ?_ ?_ 0 (Nat.zero_le _) () ls ⟨lv_sub hl [0, 2, 1] rfl, fun k hk => absurd hk (Nat.not_lt_zero _)⟩
  · intro x9 ls hI
    obtain ⟨hl, hxI⟩ := hI
    have hl : lv_has ls 3 [(2, .int (nI n)), (1, .int (nI x)), (0, .ref g)] := hl
    refine lv_iload_n hx hb dGR_beginsInColumn_2 rfl (lv_at hl 0 rfl) ?_
    refine lv_aload_n hx hb dGR_beginsInColumn_3 rfl (lv_at hl 2 rfl) ?_
    refine va_get (D := (dC, dI)) (ci := 1) (v := .ref al) (C := RGR) (T := TGR) (N := 6) hx hb hz in_GR hown hK hP 0 rfl rfl 0 (by decide) (hz _ wd_85) (fun _ h9 => h9) rfl dGR_beginsInColumn_4 ?_
    refine vp_callSi (W.runV (As := []) (rest := [.int (nI n)]) ⟨hx, hb, hml, hown, hz⟩ (f_AL_size l dC dI al ed mo n ) (cwV 0 hz (z_gV wd_192 wd_193 wd_194 wd_33 wd_195) rfl rfl rfl (by decide +kernel) ⟨Nat.le_of_ble_eq_true rfl, Nat.le_of_ble_eq_true rfl⟩) (zr_preV hK (hP.sub [1] rfl) (va_recv (q0 := 1) hK hP (q := (RAL, TAL, 3)) rfl rfl) [] rfl z_true (fun _ _ _ => trivial)) rfl rfl hl.1 rfl (lv_room (Nat.le_of_ble_eq_true rfl)) dGR_beginsInColumn_7 ⟨Nat.le_of_ble_eq_true rfl, Nat.le_of_ble_eq_true rfl⟩) (fun r1 h_r1 => ?_)
    have h_r1 : r1 = nI n := h_r1
    subst h_r1
    have t2 := nI_toInt (n := n) (by omega)
    have t3 := nI_toInt (n := n) (by omega)
    refine lv_icmp_ge (tgt := 39) hx hb dGR_beginsInColumn_10 rfl (fun _ => ?_) (fun h => by have h := z_nle h; omega)
    refine lv_iconst (v := nI 0) hx hb dGR_beginsInColumn_39 (by decide) ?_
    subst hQ
    exact zp_zret hx hb hr hlocks (Or.inl rfl) (z_y0 (fun ⟨k, hk, hq⟩ => hxI k hk hq)) dGR_beginsInColumn_40
  · intro i hi ih
    intro x9 ls hI
    obtain ⟨hl, hxI⟩ := hI
    have hl : lv_has ls 3 [(2, .int (nI i)), (1, .int (nI x)), (0, .ref g)] := hl
    refine lv_iload_n hx hb dGR_beginsInColumn_2 rfl (lv_at hl 0 rfl) ?_
    refine lv_aload_n hx hb dGR_beginsInColumn_3 rfl (lv_at hl 2 rfl) ?_
    refine va_get (D := (dC, dI)) (ci := 1) (v := .ref al) (C := RGR) (T := TGR) (N := 6) hx hb hz in_GR hown hK hP 0 rfl rfl 0 (by decide) (hz _ wd_85) (fun _ h9 => h9) rfl dGR_beginsInColumn_4 ?_
    refine vp_callSi (W.runV (As := []) (rest := [.int (nI i)]) ⟨hx, hb, hml, hown, hz⟩ (f_AL_size l dC dI al ed mo n ) (cwV 0 hz (z_gV wd_192 wd_193 wd_194 wd_33 wd_195) rfl rfl rfl (by decide +kernel) ⟨Nat.le_of_ble_eq_true rfl, Nat.le_of_ble_eq_true rfl⟩) (zr_preV hK (hP.sub [1] rfl) (va_recv (q0 := 1) hK hP (q := (RAL, TAL, 3)) rfl rfl) [] rfl z_true (fun _ _ _ => trivial)) rfl rfl hl.1 rfl (lv_room (Nat.le_of_ble_eq_true rfl)) dGR_beginsInColumn_7 ⟨Nat.le_of_ble_eq_true rfl, Nat.le_of_ble_eq_true rfl⟩) (fun r4 h_r4 => ?_)
    have h_r4 : r4 = nI n := h_r4
    subst h_r4
    have t5 := nI_toInt (n := i) (by omega)
    have t6 := nI_toInt (n := n) (by omega)
    refine lv_icmp_ge (tgt := 39) hx hb dGR_beginsInColumn_10 rfl (fun h => by have h := z_le h; omega) (fun _ => ?_)
    refine lv_aload_n hx hb dGR_beginsInColumn_13 rfl (lv_at hl 2 rfl) ?_
    refine va_get (D := (dC, dI)) (ci := 1) (v := .ref al) (C := RGR) (T := TGR) (N := 6) hx hb hz in_GR hown hK hP 0 rfl rfl 0 (by decide) (hz _ wd_85) (fun _ h9 => h9) rfl dGR_beginsInColumn_14 ?_
    refine lv_iload_n hx hb dGR_beginsInColumn_17 rfl (lv_at hl 0 rfl) ?_
    refine va_csr (W.runV (As := [.int (nI i)]) (rest := []) ⟨hx, hb, hml, hown, hz⟩ (f_AL_get l dC dI al ed cE cap a mo n i (ad i) (by omega) (by omega) (by omega) (ha _ (by omega))) (cwV 1 hz (z_gV wd_196 wd_197 wd_198 wd_33 wd_199) rfl rfl rfl (by decide +kernel) ⟨Nat.le_of_ble_eq_true rfl, Nat.le_of_ble_eq_true rfl⟩) (zr_preV hK (hP.sub [1, 2] rfl) (va_recv (q0 := 1) hK hP (q := (RAL, TAL, 3)) rfl rfl) [0] rfl z_true (fun _ _ _ => trivial)) rfl rfl hl.1 rfl (lv_room (Nat.le_of_ble_eq_true rfl)) dGR_beginsInColumn_18 ⟨Nat.le_of_ble_eq_true rfl, Nat.le_of_ble_eq_true rfl⟩) (fun r7 h_r7 => ?_)
    have h_r7 : r7 = (ad i) := h_r7
    subst h_r7
    refine va_castE hx hb hown (hz _ wd_210) (va_recv hK hP (q := (RCE, TCE, 10)) rfl (zcs_get rfl (by omega))) dGR_beginsInColumn_21 ?_
    refine va_get (D := (dC, dI)) (ci := 7) (v := .int (nI (d 0 i))) (C := RCE) (T := TCE) (N := 10) hx hb hz in_CE hown hK hP (3 + i) (zcs_get rfl (by omega)) rfl 0 (by decide) (hz _ wd_254) (fun _ h9 => h9) rfl dGR_beginsInColumn_24 ?_
    refine lv_iload_n hx hb dGR_beginsInColumn_27 rfl (lv_at hl 1 rfl) ?_
    have t8 := hd 0 i (by omega)
    have t9 := nI_toInt (n := d 0 i) (by omega)
    have t10 := nI_toInt (n := x) (by omega)
    refine lv_icmp_ne (tgt := 33) hx hb dGR_beginsInColumn_28 rfl (fun h_b => ?_) (fun h_b => ?_)
    · have h_b := z_ne h_b
      refine lv_iinc (k := 0) (v := nI (i + 1)) hx hb dGR_beginsInColumn_33 hl rfl (by rw [show Int32.ofInt 1 = nI 1 from by decide]; exact nI_add _ _) (Nat.le_of_ble_eq_true rfl) rfl (fun ls hl => ?_)
      have hl : lv_has ls 3 [(2, .int (nI (i + 1))), (1, .int (nI x)), (0, .ref g)] := hl
      refine lv_goto (tgt := 2) hx hb dGR_beginsInColumn_36 rfl ?_
      exact ih () ls ⟨lv_sub hl [0, 1, 2] rfl, lt_s hxI (by omega)⟩
    · have h_b := z_eq h_b
      refine lv_iconst (v := nI 1) hx hb dGR_beginsInColumn_31 (by decide) ?_
      subst hQ
      exact zp_zret hx hb hr hlocks (Or.inr rfl) (z_y1 ⟨i, hi, by omega⟩) dGR_beginsInColumn_32

set_option maxHeartbeats 4000000 in
set_option maxRecDepth 100000 in
theorem f_GR_beginsInRow (l : Launch) (dC : Nat → ClassId) (dI : Nat → Nat → Nat) (g : Nat) (gr : Nat) (gs : Nat) (bg : Nat) (re : Nat) (ce : Nat) (al : Nat) (ed : Nat) (cE : ClassId) (cap : Nat) (a : Nat → Option Nat) (mo : Int32) (n : Nat) (ad : Nat → Nat) (d : Nat → Nat → Nat) (x : Nat) (hn : n ≤ cap) (hc : cap < 2147483648) (ha : ∀ k, k < n → a k = some (ad k)) (hd : ∀ j k, k < n → d j k ≤ 1000) (hg : gr ≤ 1000 ∧ gs ≤ 1000 ∧ bg ≤ 1000 ∧ re ≤ 1000 ∧ ce ≤ 1000) (hx0 : x < 2147483648) : zp_M l yGR_beginsInRow wGR_beginsInRow ({ frames := 3, cells := 0, slots := 0, locals := 64 }) [.ref g, .int (nI x)] (dC, dI) vwCl ([zob g 1 [.ref al, .int (nI gr), .int (nI gs), .int (nI bg), .int (nI re), .int (nI ce)], zob al 2 [.ref ed, .int (nI n), .int mo], zrf ed cE cap a] ++ zcs n ad (zcf d)) [(cE, .object "java/lang/Object")] (fun _ => True) (fun r => z_yn r (∃ k, k < n ∧ d 1 k = x)) := by
  refine zp_head (cc := cGR_beginsInRow) (maxL := 3) (ret := (some .boolean)) (by decide +kernel) rfl (Nat.le_of_ble_eq_true rfl) ?_
  intro p e s m below meth c ls F hP hK hX hl
  obtain ⟨hx, hb, hml, hr, hlocks, hown, hts⟩ := F
  have hown : s.vm.findClass "SpannedCells$Grid" = some m.cls := hown
  have hz : ∀ w9 ∈ zT, w9.before [.ref g, .int (nI x)].toArray s = true := fun w9 h => hts w9 (List.mem_cons_of_mem _ h)
  have hl : lv_has ls 3 [(0, .ref g), (1, .int (nI x))] := hl
  refine z_q (fun Q hQ => ?_)
  refine lv_iconst (v := nI 0) hx hb dGR_beginsInRow_0 (by decide) ?_
  refine lv_istore_n hx hb dGR_beginsInRow_1 rfl hl (Nat.le_of_ble_eq_true rfl) rfl (fun ls hl => ?_)
  have hl : lv_has ls 3 [(2, .int (nI 0)), (0, .ref g), (1, .int (nI x))] := hl
  refine zl_up (σ := Unit) n (fun i x9 ls => lv_has ls 3 [(2, .int (nI i)), (1, .int (nI x)), (0, .ref g)] ∧ (∀ k, k < i → ¬ d 1 k = x)) ?_ ?_ 0 (Nat.zero_le _) () ls ⟨lv_sub hl [0, 2, 1] rfl, fun k hk => absurd hk (Nat.not_lt_zero _)⟩
  · intro x9 ls hI
    obtain ⟨hl, hxI⟩ := hI
    have hl : lv_has ls 3 [(2, .int (nI n)), (1, .int (nI x)), (0, .ref g)] := hl
    refine lv_iload_n hx hb dGR_beginsInRow_2 rfl (lv_at hl 0 rfl) ?_
    refine lv_aload_n hx hb dGR_beginsInRow_3 rfl (lv_at hl 2 rfl) ?_
    refine va_get (D := (dC, dI)) (ci := 1) (v := .ref al) (C := RGR) (T := TGR) (N := 6) hx hb hz in_GR hown hK hP 0 rfl rfl 0 (by decide) (hz _ wd_85) (fun _ h9 => h9) rfl dGR_beginsInRow_4 ?_
    refine vp_callSi (W.runV (As := []) (rest := [.int (nI n)]) ⟨hx, hb, hml, hown, hz⟩ (f_AL_size l dC dI al ed mo n ) (cwV 0 hz (z_gV wd_192 wd_193 wd_194 wd_33 wd_195) rfl rfl rfl (by decide +kernel) ⟨Nat.le_of_ble_eq_true rfl, Nat.le_of_ble_eq_true rfl⟩) (zr_preV hK (hP.sub [1] rfl) (va_recv (q0 := 1) hK hP (q := (RAL, TAL, 3)) rfl rfl) [] rfl z_true (fun _ _ _ => trivial)) rfl rfl hl.1 rfl (lv_room (Nat.le_of_ble_eq_true rfl)) dGR_beginsInRow_7 ⟨Nat.le_of_ble_eq_true rfl, Nat.le_of_ble_eq_true rfl⟩) (fun r1 h_r1 => ?_)
    have h_r1 : r1 = nI n := h_r1
    subst h_r1
    have t2 := nI_toInt (n := n) (by omega)
    have t3 := nI_toInt (n := n) (by omega)
    refine lv_icmp_ge (tgt := 39) hx hb dGR_beginsInRow_10 rfl (fun _ => ?_) (fun h => by have h := z_nle h; omega)
    refine lv_iconst (v := nI 0) hx hb dGR_beginsInRow_39 (by decide) ?_
    subst hQ
    exact zp_zret hx hb hr hlocks (Or.inl rfl) (z_y0 (fun ⟨k, hk, hq⟩ => hxI k hk hq)) dGR_beginsInRow_40
  · intro i hi ih
    intro x9 ls hI
    obtain ⟨hl, hxI⟩ := hI
    have hl : lv_has ls 3 [(2, .int (nI i)), (1, .int (nI x)), (0, .ref g)] := hl
    refine lv_iload_n hx hb dGR_beginsInRow_2 rfl (lv_at hl 0 rfl) ?_
    refine lv_aload_n hx hb dGR_beginsInRow_3 rfl (lv_at hl 2 rfl) ?_
    refine va_get (D := (dC, dI)) (ci := 1) (v := .ref al) (C := RGR) (T := TGR) (N := 6) hx hb hz in_GR hown hK hP 0 rfl rfl 0 (by decide) (hz _ wd_85) (fun _ h9 => h9) rfl dGR_beginsInRow_4 ?_
    refine vp_callSi (W.runV (As := []) (rest := [.int (nI i)]) ⟨hx, hb, hml, hown, hz⟩ (f_AL_size l dC dI al ed mo n ) (cwV 0 hz (z_gV wd_192 wd_193 wd_194 wd_33 wd_195) rfl rfl rfl (by decide +kernel) ⟨Nat.le_of_ble_eq_true rfl, Nat.le_of_ble_eq_true rfl⟩) (zr_preV hK (hP.sub [1] rfl) (va_recv (q0 := 1) hK hP (q := (RAL, TAL, 3)) rfl rfl) [] rfl z_true (fun _ _ _ => trivial)) rfl rfl hl.1 rfl (lv_room (Nat.le_of_ble_eq_true rfl)) dGR_beginsInRow_7 ⟨Nat.le_of_ble_eq_true rfl, Nat.le_of_ble_eq_true rfl⟩) (fun r4 h_r4 => ?_)
    have h_r4 : r4 = nI n := h_r4
    subst h_r4
    have t5 := nI_toInt (n := i) (by omega)
    have t6 := nI_toInt (n := n) (by omega)
    refine lv_icmp_ge (tgt := 39) hx hb dGR_beginsInRow_10 rfl (fun h => by have h := z_le h; omega) (fun _ => ?_)
    refine lv_aload_n hx hb dGR_beginsInRow_13 rfl (lv_at hl 2 rfl) ?_
    refine va_get (D := (dC, dI)) (ci := 1) (v := .ref al) (C := RGR) (T := TGR) (N := 6) hx hb hz in_GR hown hK hP 0 rfl rfl 0 (by decide) (hz _ wd_85) (fun _ h9 => h9) rfl dGR_beginsInRow_14 ?_
    refine lv_iload_n hx hb dGR_beginsInRow_17 rfl (lv_at hl 0 rfl) ?_
    refine va_csr (W.runV (As := [.int (nI i)]) (rest := []) ⟨hx, hb, hml, hown, hz⟩ (f_AL_get l dC dI al ed cE cap a mo n i (ad i) (by omega) (by omega) (by omega) (ha _ (by omega))) (cwV 1 hz (z_gV wd_196 wd_197 wd_198 wd_33 wd_199) rfl rfl rfl (by decide +kernel) ⟨Nat.le_of_ble_eq_true rfl, Nat.le_of_ble_eq_true rfl⟩) (zr_preV hK (hP.sub [1, 2] rfl) (va_recv (q0 := 1) hK hP (q := (RAL, TAL, 3)) rfl rfl) [0] rfl z_true (fun _ _ _ => trivial)) rfl rfl hl.1 rfl (lv_room (Nat.le_of_ble_eq_true rfl)) dGR_beginsInRow_18 ⟨Nat.le_of_ble_eq_true rfl, Nat.le_of_ble_eq_true rfl⟩) (fun r7 h_r7 => ?_)
    have h_r7 : r7 = (ad i) := h_r7
    subst h_r7
    refine va_castE hx hb hown (hz _ wd_210) (va_recv hK hP (q := (RCE, TCE, 10)) rfl (zcs_get rfl (by omega))) dGR_beginsInRow_21 ?_
    refine va_get (D := (dC, dI)) (ci := 7) (v := .int (nI (d 1 i))) (C := RCE) (T := TCE) (N := 10) hx hb hz in_CE hown hK hP (3 + i) (zcs_get rfl (by omega)) rfl 1 (by decide) (hz _ wd_258) (fun _ h9 => h9) rfl dGR_beginsInRow_24 ?_
    refine lv_iload_n hx hb dGR_beginsInRow_27 rfl (lv_at hl 1 rfl) ?_
    have t8 := hd 1 i (by omega)
    have t9 := nI_toInt (n := d 1 i) (by omega)
    have t10 := nI_toInt (n := x) (by omega)
    refine lv_icmp_ne (tgt := 33) hx hb dGR_beginsInRow_28 rfl (fun h_b => ?_) (fun h_b => ?_)
    · have h_b := z_ne h_b
      refine lv_iinc (k := 0) (v := nI (i + 1)) hx hb dGR_beginsInRow_33 hl rfl (by rw [show Int32.ofInt 1 = nI 1 from by decide]; exact nI_add _ _) (Nat.le_of_ble_eq_true rfl) rfl (fun ls hl => ?_)
      have hl : lv_has ls 3 [(2, .int (nI (i + 1))), (1, .int (nI x)), (0, .ref g)] := hl
      refine lv_goto (tgt := 2) hx hb dGR_beginsInRow_36 rfl ?_
      exact ih () ls ⟨lv_sub hl [0, 1, 2] rfl, lt_s hxI (by omega)⟩
    · have h_b := z_eq h_b
      refine lv_iconst (v := nI 1) hx hb dGR_beginsInRow_31 (by decide) ?_
      subst hQ
      exact zp_zret hx hb hr hlocks (Or.inr rfl) (z_y1 ⟨i, hi, by omega⟩) dGR_beginsInRow_32

set_option maxHeartbeats 4000000 in
set_option maxRecDepth 100000 in
theorem f_GR_countEmptyColumns (l : Launch) (dC : Nat → ClassId) (dI : Nat → Nat → Nat) (g : Nat) (gr : Nat) (gs : Nat) (bg : Nat) (re : Nat) (ce : Nat) (al : Nat) (ed : Nat) (cE : ClassId) (cap : Nat) (a : Nat → Option Nat) (mo : Int32) (n : Nat) (ad : Nat → Nat) (d : Nat → Nat → Nat) (hn : n ≤ cap) (hc : cap < 2147483648) (ha : ∀ k, k < n → a k = some (ad k)) (hd : ∀ j k, k < n → d j k ≤ 1000) (hg : gr ≤ 1000 ∧ gs ≤ 1000 ∧ bg ≤ 1000 ∧ re ≤ 1000 ∧ ce ≤ 1000) : zp_M l yGR_countEmptyColumns wGR_countEmptyColumns ({ frames := 4, cells := 0, slots := 0, locals := 86 }) [.ref g] (dC, dI) vwCl ([zob g 1 [.ref al, .int (nI gr), .int (nI gs), .int (nI bg), .int (nI re), .int (nI ce)], zob al 2 [.ref ed, .int (nI n), .int mo], zrf ed cE cap a] ++ zcs n ad (zcf d)) [(cE, .object "java/lang/Object")] (fun _ => True) (fun r => r = nI (zCn (zEc n (d 0)) ce)) := by
  refine zp_head (cc := cGR_countEmptyColumns) (maxL := 3) (ret := (some .int)) (by decide +kernel) rfl (Nat.le_of_ble_eq_true rfl) ?_
  intro p e s m below meth c ls F hP hK hX hl
  obtain ⟨hx, hb, hml, hr, hlocks, hown, hts⟩ := F
  have hown : s.vm.findClass "SpannedCells$Grid" = some m.cls := hown
  have hz : ∀ w9 ∈ zT, w9.before [.ref g].toArray s = true := fun w9 h => hts w9 (List.mem_cons_of_mem _ h)
  have hl : lv_has ls 3 [(0, .ref g)] := hl
  refine z_q (fun Q hQ => ?_)
  refine lv_iconst (v := nI 0) hx hb dGR_countEmptyColumns_0 (by decide) ?_
  refine lv_istore_n hx hb dGR_countEmptyColumns_1 rfl hl (Nat.le_of_ble_eq_true rfl) rfl (fun ls hl => ?_)
  have hl : lv_has ls 3 [(1, .int (nI 0)), (0, .ref g)] := hl
  refine lv_iconst (v := nI 0) hx hb dGR_countEmptyColumns_2 (by decide) ?_
  refine lv_istore_n hx hb dGR_countEmptyColumns_3 rfl hl (Nat.le_of_ble_eq_true rfl) rfl (fun ls hl => ?_)
  have hl : lv_has ls 3 [(2, .int (nI 0)), (1, .int (nI 0)), (0, .ref g)] := hl
  refine zl_up (σ := Unit) ce (fun i x9 ls => lv_has ls 3 [(2, .int (nI i)), (1, .int (nI (zCn (zEc n (d 0)) i))), (0, .ref g)]) ?_ ?_ 0 (Nat.zero_le _) () ls (lv_sub hl [0, 1, 2] rfl)
  · intro x9 ls hI
    have hl := hI
    have hl : lv_has ls 3 [(2, .int (nI ce)), (1, .int (nI (zCn (zEc n (d 0)) ce))), (0, .ref g)] := hl
    refine lv_iload_n hx hb dGR_countEmptyColumns_4 rfl (lv_at hl 0 rfl) ?_
    refine lv_aload_n hx hb dGR_countEmptyColumns_5 rfl (lv_at hl 2 rfl) ?_
    refine va_get (D := (dC, dI)) (ci := 1) (v := .int (nI ce)) (C := RGR) (T := TGR) (N := 6) hx hb hz in_GR hown hK hP 0 rfl rfl 5 (by decide) (hz _ wd_90) (fun _ h9 => h9) rfl dGR_countEmptyColumns_6 ?_
    have t1 := nI_toInt (n := ce) (by omega)
    have t2 := nI_toInt (n := ce) (by omega)
    refine lv_icmp_ge (tgt := 34) hx hb dGR_countEmptyColumns_9 rfl (fun _ => ?_) (fun h => by have h := z_nle h; omega)
    refine lv_iload_n hx hb dGR_countEmptyColumns_34 rfl (lv_at hl 1 rfl) ?_
    subst hQ
    exact zp_iret hx hb hr hlocks (rfl) dGR_countEmptyColumns_35
  · intro i hi ih
    intro x9 ls hI
    have hl := hI
    have hl : lv_has ls 3 [(2, .int (nI i)), (1, .int (nI (zCn (zEc n (d 0)) i))), (0, .ref g)] := hl
    refine lv_iload_n hx hb dGR_countEmptyColumns_4 rfl (lv_at hl 0 rfl) ?_
    refine lv_aload_n hx hb dGR_countEmptyColumns_5 rfl (lv_at hl 2 rfl) ?_
    refine va_get (D := (dC, dI)) (ci := 1) (v := .int (nI ce)) (C := RGR) (T := TGR) (N := 6) hx hb hz in_GR hown hK hP 0 rfl rfl 5 (by decide) (hz _ wd_90) (fun _ h9 => h9) rfl dGR_countEmptyColumns_6 ?_
    have t3 := nI_toInt (n := i) (by omega)
    have t4 := nI_toInt (n := ce) (by omega)
    refine lv_icmp_ge (tgt := 34) hx hb dGR_countEmptyColumns_9 rfl (fun h => by have h := z_le h; omega) (fun _ => ?_)
    refine lv_iload_n hx hb dGR_countEmptyColumns_12 rfl (lv_at hl 1 rfl) ?_
    refine lv_aload_n hx hb dGR_countEmptyColumns_13 rfl (lv_at hl 2 rfl) ?_
    refine lv_iload_n hx hb dGR_countEmptyColumns_14 rfl (lv_at hl 0 rfl) ?_
    refine vp_callSi (W.runV (As := [.int (nI i)]) (rest := [.int (nI (zCn (zEc n (d 0)) i))]) ⟨hx, hb, hml, hown, hz⟩ (f_GR_beginsInColumn l dC dI g gr gs bg re ce al ed cE cap a mo n ad d i (by omega) (by omega) (ha) (hd) (hg) (by omega)) (cwV 1 hz (z_gV wd_428 wd_430 wd_6 wd_30 wd_431) rfl rfl rfl (by decide +kernel) ⟨Nat.le_of_ble_eq_true rfl, Nat.le_of_ble_eq_true rfl⟩) (zr_preV hK (zt_sub hP [0, 1, 2] rfl) (va_recv (q0 := 0) hK hP (q := (RGR, TGR, 6)) rfl rfl) [0] rfl z_true (fun _ _ _ => trivial)) rfl rfl hl.1 rfl (lv_room (Nat.le_of_ble_eq_true rfl)) dGR_countEmptyColumns_15 ⟨Nat.le_of_ble_eq_true rfl, Nat.le_of_ble_eq_true rfl⟩) (fun rb h_rb => ?_)
    have h_rb : z_yn rb (∃ k, k < n ∧ d 0 k = i) := h_rb
    refine lv_if_eq (tgt := 25) hx hb dGR_countEmptyColumns_18 rfl (fun h_b => ?_) (fun h_b => ?_)
    · have h_b := z_yF h_rb h_b
      refine lv_iconst (v := nI 1) hx hb dGR_countEmptyColumns_25 (by decide) ?_
      refine lv_iadd hx hb dGR_countEmptyColumns_26 ?_
      refine lv_topi (fun x6 e7 => ?_)
      have e7 : x6 = nI (zCn (zEc n (d 0)) (i + 1)) := e7.trans (by rw [zCn_T (P := zEc n (d 0)) h_b]; exact nI_add _ _)
      subst e7
      refine lv_istore_n hx hb dGR_countEmptyColumns_27 rfl hl (Nat.le_of_ble_eq_true rfl) rfl (fun ls hl => ?_)
      have hl : lv_has ls 3 [(1, .int (nI (zCn (zEc n (d 0)) (i + 1)))), (2, .int (nI i)), (0, .ref g)] := hl
      refine lv_iinc (k := 1) (v := nI (i + 1)) hx hb dGR_countEmptyColumns_28 hl rfl (by rw [show Int32.ofInt 1 = nI 1 from by decide]; exact nI_add _ _) (Nat.le_of_ble_eq_true rfl) rfl (fun ls hl => ?_)
      have hl : lv_has ls 3 [(2, .int (nI (i + 1))), (1, .int (nI (zCn (zEc n (d 0)) (i + 1)))), (0, .ref g)] := hl
      refine lv_goto (tgt := 4) hx hb dGR_countEmptyColumns_31 rfl ?_
      exact ih () ls (lv_sub hl [0, 1, 2] rfl)
    · have h_b := z_yT h_rb h_b
      refine lv_iconst (v := nI 0) hx hb dGR_countEmptyColumns_21 (by decide) ?_
      refine lv_goto (tgt := 26) hx hb dGR_countEmptyColumns_22 rfl ?_
      refine lv_iadd hx hb dGR_countEmptyColumns_26 ?_
      refine lv_topi (fun x8 e9 => ?_)
      have e9 : x8 = nI (zCn (zEc n (d 0)) (i + 1)) := e9.trans (by rw [zCn_F (P := zEc n (d 0)) (fun h => h h_b)]; exact nI_add _ 0)
      subst e9
      refine lv_istore_n hx hb dGR_countEmptyColumns_27 rfl hl (Nat.le_of_ble_eq_true rfl) rfl (fun ls hl => ?_)
      have hl : lv_has ls 3 [(1, .int (nI (zCn (zEc n (d 0)) (i + 1)))), (2, .int (nI i)), (0, .ref g)] := hl
      refine lv_iinc (k := 1) (v := nI (i + 1)) hx hb dGR_countEmptyColumns_28 hl rfl (by rw [show Int32.ofInt 1 = nI 1 from by decide]; exact nI_add _ _) (Nat.le_of_ble_eq_true rfl) rfl (fun ls hl => ?_)
      have hl : lv_has ls 3 [(2, .int (nI (i + 1))), (1, .int (nI (zCn (zEc n (d 0)) (i + 1)))), (0, .ref g)] := hl
      refine lv_goto (tgt := 4) hx hb dGR_countEmptyColumns_31 rfl ?_
      exact ih () ls (lv_sub hl [0, 1, 2] rfl)

set_option maxHeartbeats 4000000 in
set_option maxRecDepth 100000 in
theorem f_GR_countEmptyRows (l : Launch) (dC : Nat → ClassId) (dI : Nat → Nat → Nat) (g : Nat) (gr : Nat) (gs : Nat) (bg : Nat) (re : Nat) (ce : Nat) (al : Nat) (ed : Nat) (cE : ClassId) (cap : Nat) (a : Nat → Option Nat) (mo : Int32) (n : Nat) (ad : Nat → Nat) (d : Nat → Nat → Nat) (hn : n ≤ cap) (hc : cap < 2147483648) (ha : ∀ k, k < n → a k = some (ad k)) (hd : ∀ j k, k < n → d j k ≤ 1000) (hg : gr ≤ 1000 ∧ gs ≤ 1000 ∧ bg ≤ 1000 ∧ re ≤ 1000 ∧ ce ≤ 1000) : zp_M l yGR_countEmptyRows wGR_countEmptyRows ({ frames := 4, cells := 0, slots := 0, locals := 86 }) [.ref g] (dC, dI) vwCl ([zob g 1 [.ref al, .int (nI gr), .int (nI gs), .int (nI bg), .int (nI re), .int (nI ce)], zob al 2 [.ref ed, .int (nI n), .int mo], zrf ed cE cap a] ++ zcs n ad (zcf d)) [(cE, .object "java/lang/Object")] (fun _ => True) (fun r => r = nI (zCn (zEc n (d 1)) re)) := by
  refine zp_head (cc := cGR_countEmptyRows) (maxL := 3) (ret := (some .int)) (by decide +kernel) rfl (Nat.le_of_ble_eq_true rfl) ?_
  intro p e s m below meth c ls F hP hK hX hl
  obtain ⟨hx, hb, hml, hr, hlocks, hown, hts⟩ := F
  have hown : s.vm.findClass "SpannedCells$Grid" = some m.cls := hown
  have hz : ∀ w9 ∈ zT, w9.before [.ref g].toArray s = true := fun w9 h => hts w9 (List.mem_cons_of_mem _ h)
  have hl : lv_has ls 3 [(0, .ref g)] := hl
  refine z_q (fun Q hQ => ?_)
  refine lv_iconst (v := nI 0) hx hb dGR_countEmptyRows_0 (by decide) ?_
  refine lv_istore_n hx hb dGR_countEmptyRows_1 rfl hl (Nat.le_of_ble_eq_true rfl) rfl (fun ls hl => ?_)
  have hl : lv_has ls 3 [(1, .int (nI 0)), (0, .ref g)] := hl
  refine lv_iconst (v := nI 0) hx hb dGR_countEmptyRows_2 (by decide) ?_
  refine lv_istore_n hx hb dGR_countEmptyRows_3 rfl hl (Nat.le_of_ble_eq_true rfl) rfl (fun ls hl => ?_)
  have hl : lv_has ls 3 [(2, .int (nI 0)), (1, .int (nI 0)), (0, .ref g)] := hl
  refine zl_up (σ := Unit) re (fun i x9 ls => lv_has ls 3 [(2, .int (nI i)), (1, .int (nI (zCn (zEc n (d 1)) i))), (0, .ref g)]) ?_ ?_ 0 (Nat.zero_le _) () ls (lv_sub hl [0, 1, 2] rfl)
  · intro x9 ls hI
    have hl := hI
    have hl : lv_has ls 3 [(2, .int (nI re)), (1, .int (nI (zCn (zEc n (d 1)) re))), (0, .ref g)] := hl
    refine lv_iload_n hx hb dGR_countEmptyRows_4 rfl (lv_at hl 0 rfl) ?_
    refine lv_aload_n hx hb dGR_countEmptyRows_5 rfl (lv_at hl 2 rfl) ?_
    refine va_get (D := (dC, dI)) (ci := 1) (v := .int (nI re)) (C := RGR) (T := TGR) (N := 6) hx hb hz in_GR hown hK hP 0 rfl rfl 4 (by decide) (hz _ wd_89) (fun _ h9 => h9) rfl dGR_countEmptyRows_6 ?_
    have t1 := nI_toInt (n := re) (by omega)
    have t2 := nI_toInt (n := re) (by omega)
    refine lv_icmp_ge (tgt := 34) hx hb dGR_countEmptyRows_9 rfl (fun _ => ?_) (fun h => by have h := z_nle h; omega)
    refine lv_iload_n hx hb dGR_countEmptyRows_34 rfl (lv_at hl 1 rfl) ?_
    subst hQ
    exact zp_iret hx hb hr hlocks (rfl) dGR_countEmptyRows_35
  · intro i hi ih
    intro x9 ls hI
    have hl := hI
    have hl : lv_has ls 3 [(2, .int (nI i)), (1, .int (nI (zCn (zEc n (d 1)) i))), (0, .ref g)] := hl
    refine lv_iload_n hx hb dGR_countEmptyRows_4 rfl (lv_at hl 0 rfl) ?_
    refine lv_aload_n hx hb dGR_countEmptyRows_5 rfl (lv_at hl 2 rfl) ?_
    refine va_get (D := (dC, dI)) (ci := 1) (v := .int (nI re)) (C := RGR) (T := TGR) (N := 6) hx hb hz in_GR hown hK hP 0 rfl rfl 4 (by decide) (hz _ wd_89) (fun _ h9 => h9) rfl dGR_countEmptyRows_6 ?_
    have t3 := nI_toInt (n := i) (by omega)
    have t4 := nI_toInt (n := re) (by omega)
    refine lv_icmp_ge (tgt := 34) hx hb dGR_countEmptyRows_9 rfl (fun h => by have h := z_le h; omega) (fun _ => ?_)
    refine lv_iload_n hx hb dGR_countEmptyRows_12 rfl (lv_at hl 1 rfl) ?_
    refine lv_aload_n hx hb dGR_countEmptyRows_13 rfl (lv_at hl 2 rfl) ?_
    refine lv_iload_n hx hb dGR_countEmptyRows_14 rfl (lv_at hl 0 rfl) ?_
    refine vp_callSi (W.runV (As := [.int (nI i)]) (rest := [.int (nI (zCn (zEc n (d 1)) i))]) ⟨hx, hb, hml, hown, hz⟩ (f_GR_beginsInRow l dC dI g gr gs bg re ce al ed cE cap a mo n ad d i (by omega) (by omega) (ha) (hd) (hg) (by omega)) (cwV 1 hz (z_gV wd_436 wd_438 wd_7 wd_30 wd_439) rfl rfl rfl (by decide +kernel) ⟨Nat.le_of_ble_eq_true rfl, Nat.le_of_ble_eq_true rfl⟩) (zr_preV hK (zt_sub hP [0, 1, 2] rfl) (va_recv (q0 := 0) hK hP (q := (RGR, TGR, 6)) rfl rfl) [0] rfl z_true (fun _ _ _ => trivial)) rfl rfl hl.1 rfl (lv_room (Nat.le_of_ble_eq_true rfl)) dGR_countEmptyRows_15 ⟨Nat.le_of_ble_eq_true rfl, Nat.le_of_ble_eq_true rfl⟩) (fun rb h_rb => ?_)
    have h_rb : z_yn rb (∃ k, k < n ∧ d 1 k = i) := h_rb
    refine lv_if_eq (tgt := 25) hx hb dGR_countEmptyRows_18 rfl (fun h_b => ?_) (fun h_b => ?_)
    · have h_b := z_yF h_rb h_b
      refine lv_iconst (v := nI 1) hx hb dGR_countEmptyRows_25 (by decide) ?_
      refine lv_iadd hx hb dGR_countEmptyRows_26 ?_
      refine lv_topi (fun x6 e7 => ?_)
      have e7 : x6 = nI (zCn (zEc n (d 1)) (i + 1)) := e7.trans (by rw [zCn_T (P := zEc n (d 1)) h_b]; exact nI_add _ _)
      subst e7
      refine lv_istore_n hx hb dGR_countEmptyRows_27 rfl hl (Nat.le_of_ble_eq_true rfl) rfl (fun ls hl => ?_)
      have hl : lv_has ls 3 [(1, .int (nI (zCn (zEc n (d 1)) (i + 1)))), (2, .int (nI i)), (0, .ref g)] := hl
      refine lv_iinc (k := 1) (v := nI (i + 1)) hx hb dGR_countEmptyRows_28 hl rfl (by rw [show Int32.ofInt 1 = nI 1 from by decide]; exact nI_add _ _) (Nat.le_of_ble_eq_true rfl) rfl (fun ls hl => ?_)
      have hl : lv_has ls 3 [(2, .int (nI (i + 1))), (1, .int (nI (zCn (zEc n (d 1)) (i + 1)))), (0, .ref g)] := hl
      refine lv_goto (tgt := 4) hx hb dGR_countEmptyRows_31 rfl ?_
      exact ih () ls (lv_sub hl [0, 1, 2] rfl)
    · have h_b := z_yT h_rb h_b
      refine lv_iconst (v := nI 0) hx hb dGR_countEmptyRows_21 (by decide) ?_
      refine lv_goto (tgt := 26) hx hb dGR_countEmptyRows_22 rfl ?_
      refine lv_iadd hx hb dGR_countEmptyRows_26 ?_
      refine lv_topi (fun x8 e9 => ?_)
      have e9 : x8 = nI (zCn (zEc n (d 1)) (i + 1)) := e9.trans (by rw [zCn_F (P := zEc n (d 1)) (fun h => h h_b)]; exact nI_add _ 0)
      subst e9
      refine lv_istore_n hx hb dGR_countEmptyRows_27 rfl hl (Nat.le_of_ble_eq_true rfl) rfl (fun ls hl => ?_)
      have hl : lv_has ls 3 [(1, .int (nI (zCn (zEc n (d 1)) (i + 1)))), (2, .int (nI i)), (0, .ref g)] := hl
      refine lv_iinc (k := 1) (v := nI (i + 1)) hx hb dGR_countEmptyRows_28 hl rfl (by rw [show Int32.ofInt 1 = nI 1 from by decide]; exact nI_add _ _) (Nat.le_of_ble_eq_true rfl) rfl (fun ls hl => ?_)
      have hl : lv_has ls 3 [(2, .int (nI (i + 1))), (1, .int (nI (zCn (zEc n (d 1)) (i + 1)))), (0, .ref g)] := hl
      refine lv_goto (tgt := 4) hx hb dGR_countEmptyRows_31 rfl ?_
      exact ih () ls (lv_sub hl [0, 1, 2] rfl)
