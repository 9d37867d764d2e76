set_option maxHeartbeats 4000000 in
set_option maxRecDepth 100000 in
theorem f_GR_countOwnedSlots (l : Launch) (dC : Nat → ClassId) (dI : Nat → Nat → Nat) (g : Nat) (gr : Nat) (gs : Nat) (bg : Nat) (re : Nat) (ce : Nat) (al : Nat) (ed : Nat) (cE : ClassId) (cap : Nat) (a : Nat → Option Nat) (mo : Int32) (n : Nat) (ad : Nat → Nat) (d : Nat → Nat → Nat) (hn : n ≤ cap) (hc : cap < 2147483648) (ha : ∀ k, k < n → a k = some (ad k)) (hd : ∀ j k, k < n → d j k ≤ 1000) (hg : gr ≤ 1000 ∧ gs ≤ 1000 ∧ bg ≤ 1000 ∧ re ≤ 1000 ∧ ce ≤ 1000) : zp_M l yGR_countOwnedSlots wGR_countOwnedSlots ({ frames := 4, cells := 0, slots := 0, locals := 87 }) [.ref g] (dC, dI) vwCl ([zob g 1 [.ref al, .int (nI gr), .int (nI gs), .int (nI bg), .int (nI re), .int (nI ce)], zob al 2 [.ref ed, .int (nI n), .int mo], zrf ed cE cap a] ++ zcs n ad (zcf d)) [(cE, .object "java/lang/Object")] (fun _ => True) (fun r => r = nI (zSum (fun y => zCn (fun x => zOwd n d x y) ce) re)) := by
  refine zp_head (cc := cGR_countOwnedSlots) (maxL := 4) (ret := (some .int)) (by decide +kernel) rfl (Nat.le_of_ble_eq_true rfl) ?_
  intro p e s m below meth c ls F hP hK hX hl
  obtain ⟨hx, hb, hml, hr, hlocks, hown, hts⟩ := F
  have hown : s.vm.findClass "SpannedCells$Grid" = some m.cls := hown
  have hz : ∀ w9 ∈ zT, w9.before [.ref g].toArray s = true := fun w9 h => hts w9 (List.mem_cons_of_mem _ h)
  have hl : lv_has ls 4 [(0, .ref g)] := hl
  refine z_q (fun Q hQ => ?_)
  refine lv_iconst (v := nI 0) hx hb dGR_countOwnedSlots_0 (by decide) ?_
  refine lv_istore_n hx hb dGR_countOwnedSlots_1 rfl hl (Nat.le_of_ble_eq_true rfl) rfl (fun ls hl => ?_)
  have hl : lv_has ls 4 [(1, .int (nI 0)), (0, .ref g)] := hl
  refine lv_iconst (v := nI 0) hx hb dGR_countOwnedSlots_2 (by decide) ?_
  refine lv_istore_n hx hb dGR_countOwnedSlots_3 rfl hl (Nat.le_of_ble_eq_true rfl) rfl (fun ls hl => ?_)
  have hl : lv_has ls 4 [(2, .int (nI 0)), (1, .int (nI 0)), (0, .ref g)] := hl
  refine zl_up (σ := Unit) re (fun i x9 ls => lv_has ls 4 [(2, .int (nI i)), (1, .int (nI (zSum (fun y => zCn (fun x => zOwd n d x y) ce) i))), (0, .ref g)]) ?_ ?_ 0 (Nat.zero_le _) () ls (lv_sub hl [0, 1, 2] rfl)
  · intro x9 ls hI
    have hl := hI
    have hl : lv_has ls 4 [(2, .int (nI re)), (1, .int (nI (zSum (fun y => zCn (fun x => zOwd n d x y) ce) re))), (0, .ref g)] := hl
    refine lv_iload_n hx hb dGR_countOwnedSlots_4 rfl (lv_at hl 0 rfl) ?_
    refine lv_aload_n hx hb dGR_countOwnedSlots_5 rfl (lv_at hl 2 rfl) ?_
    refine va_get (D := (dC, dI)) (ci := 1) (v := .int (nI re)) (C := RGR) (T := TGR) (N := 6) hx hb hz in_GR hown hK hP 0 rfl rfl 4 (by decide) (hz _ wd_89) (fun _ h9 => h9) rfl dGR_countOwnedSlots_6 ?_
    have t1 := nI_toInt (n := re) (by omega)
    have t2 := nI_toInt (n := re) (by omega)
    refine lv_icmp_ge (tgt := 52) hx hb dGR_countOwnedSlots_9 rfl (fun _ => ?_) (fun h => by have h := z_nle h; omega)
    refine lv_iload_n hx hb dGR_countOwnedSlots_52 rfl (lv_at hl 1 rfl) ?_
    subst hQ
    exact zp_iret hx hb hr hlocks (rfl) dGR_countOwnedSlots_53
  · intro i hi ih
    intro x9 ls hI
    have hl := hI
    have hl : lv_has ls 4 [(2, .int (nI i)), (1, .int (nI (zSum (fun y => zCn (fun x => zOwd n d x y) ce) i))), (0, .ref g)] := hl
    refine lv_iload_n hx hb dGR_countOwnedSlots_4 rfl (lv_at hl 0 rfl) ?_
    refine lv_aload_n hx hb dGR_countOwnedSlots_5 rfl (lv_at hl 2 rfl) ?_
    refine va_get (D := (dC, dI)) (ci := 1) (v := .int (nI re)) (C := RGR) (T := TGR) (N := 6) hx hb hz in_GR hown hK hP 0 rfl rfl 4 (by decide) (hz _ wd_89) (fun _ h9 => h9) rfl dGR_countOwnedSlots_6 ?_
    have t3 := nI_toInt (n := i) (by omega)
    have t4 := nI_toInt (n := re) (by omega)
    refine lv_icmp_ge (tgt := 52) hx hb dGR_countOwnedSlots_9 rfl (fun h => by have h := z_le h; omega) (fun _ => ?_)
    refine lv_iconst (v := nI 0) hx hb dGR_countOwnedSlots_12 (by decide) ?_
    refine lv_istore_n hx hb dGR_countOwnedSlots_13 rfl hl (Nat.le_of_ble_eq_true rfl) rfl (fun ls hl => ?_)
    have hl : lv_has ls 4 [(3, .int (nI 0)), (2, .int (nI i)), (1, .int (nI (zSum (fun y => zCn (fun x => zOwd n d x y) ce) i))), (0, .ref g)] := hl
    refine zl_up (σ := Unit) ce (fun j x9 ls => lv_has ls 4 [(3, .int (nI j)), (2, .int (nI i)), (1, .int (nI (zSum (fun y => zCn (fun x => zOwd n d x y) ce) i + zCn (fun x => zOwd n d x i) j))), (0, .ref g)]) ?_ ?_ 0 (Nat.zero_le _) () ls (lv_sub hl [0, 1, 2, 3] rfl)
    · intro x9 ls hI
      have hl := hI
      have hl : lv_has ls 4 [(3, .int (nI ce)), (2, .int (nI i)), (1, .int (nI (zSum (fun y => zCn (fun x => zOwd n d x y) ce) i + zCn (fun x => zOwd n d x i) ce))), (0, .ref g)] := hl
      refine lv_iload_n hx hb dGR_countOwnedSlots_14 rfl (lv_at hl 0 rfl) ?_
      refine lv_aload_n hx hb dGR_countOwnedSlots_15 rfl (lv_at hl 3 rfl) ?_
      refine va_get (D := (dC, dI)) (ci := 1) (v := .int (nI ce)) (C := RGR) (T := TGR) (N := 6) hx hb hz in_GR hown hK hP 0 rfl rfl 5 (by decide) (hz _ wd_90) (fun _ h9 => h9) rfl dGR_countOwnedSlots_16 ?_
      have t5 := nI_toInt (n := ce) (by omega)
      have t6 := nI_toInt (n := ce) (by omega)
      refine lv_icmp_ge (tgt := 46) hx hb dGR_countOwnedSlots_19 rfl (fun _ => ?_) (fun h => by have h := z_nle h; omega)
      refine lv_iinc (k := 1) (v := nI (i + 1)) hx hb dGR_countOwnedSlots_46 hl rfl (by rw [show Int32.ofInt 1 = nI 1 from by decide]; exact nI_add _ _) (Nat.le_of_ble_eq_true rfl) rfl (fun ls hl => ?_)
      have hl : lv_has ls 4 [(2, .int (nI (i + 1))), (3, .int (nI ce)), (1, .int (nI (zSum (fun y => zCn (fun x => zOwd n d x y) ce) i + zCn (fun x => zOwd n d x i) ce))), (0, .ref g)] := hl
      refine lv_goto (tgt := 4) hx hb dGR_countOwnedSlots_49 rfl ?_
      exact ih () ls (lv_sub hl [0, 2, 3] rfl)
    · intro j hj jh
      intro x9 ls hI
      have hl := hI
      have hl : lv_has ls 4 [(3, .int (nI j)), (2, .int (nI i)), (1, .int (nI (zSum (fun y => zCn (fun x => zOwd n d x y) ce) i + zCn (fun x => zOwd n d x i) j))), (0, .ref g)] := hl
      refine lv_iload_n hx hb dGR_countOwnedSlots_14 rfl (lv_at hl 0 rfl) ?_
      refine lv_aload_n hx hb dGR_countOwnedSlots_15 rfl (lv_at hl 3 rfl) ?_
      refine va_get (D := (dC, dI)) (ci := 1) (v := .int (nI ce)) (C := RGR) (T := TGR) (N := 6) hx hb hz in_GR hown hK hP 0 rfl rfl 5 (by decide) (hz _ wd_90) (fun _ h9 => h9) rfl dGR_countOwnedSlots_16 ?_
      have t7 := nI_toInt (n := j) (by omega)
      have t8 := nI_toInt (n := ce) (by omega)
      refine lv_icmp_ge (tgt := 46) hx hb dGR_countOwnedSlots_19 rfl (fun h => by have h := z_le h; omega) (fun _ => ?_)
      refine lv_iload_n hx hb dGR_countOwnedSlots_22 rfl (lv_at hl 2 rfl) ?_
      refine lv_aload_n hx hb dGR_countOwnedSlots_23 rfl (lv_at hl 3 rfl) ?_
      refine lv_iload_n hx hb dGR_countOwnedSlots_24 rfl (lv_at hl 0 rfl) ?_
      refine lv_iload_n hx hb dGR_countOwnedSlots_25 rfl (lv_at hl 1 rfl) ?_
      refine vp_callSi (W.runV (As := [.int (nI j), .int (nI i)]) (rest := [.int (nI (zSum (fun y => zCn (fun x => zOwd n d x y) ce) i + zCn (fun x => zOwd n d x i) j))]) ⟨hx, hb, hml, hown, hz⟩ (f_GR_ownerOf l dC dI g gr gs bg re ce al ed cE cap a mo n ad d (nI j) (nI i) (by omega) (by omega) (ha) (hd) (hg)) (cwV 2 hz (z_gV wd_230 wd_231 wd_232 wd_30 wd_233) rfl rfl rfl (by decide +kernel) ⟨Nat.le_of_ble_eq_true rfl, Nat.le_of_ble_eq_true rfl⟩) (zr_preV hK (zt_sub hP [0, 1, 2] rfl) (va_recv (q0 := 0) hK hP (q := (RGR, TGR, 6)) rfl rfl) [0] rfl z_true (fun _ _ _ => trivial)) rfl rfl hl.1 rfl (lv_room (Nat.le_of_ble_eq_true rfl)) dGR_countOwnedSlots_26 ⟨Nat.le_of_ble_eq_true rfl, Nat.le_of_ble_eq_true rfl⟩) (fun ro h_ro => ?_)
      have h_ro : zFst n (fun k => zTd d k (nI j) (nI i)) ro := h_ro
      have h_o := zFst_none (by omega) (by omega) (by omega) h_ro
      refine lv_iconst (v := (-1)) hx hb dGR_countOwnedSlots_29 (by decide) ?_
      have t9 := z_m1
      refine lv_icmp_ne (tgt := 37) hx hb dGR_countOwnedSlots_30 rfl (fun h_b => ?_) (fun h_b => ?_)
      · have h_b := z_ne h_b
        refine lv_iconst (v := nI 1) hx hb dGR_countOwnedSlots_37 (by decide) ?_
        refine lv_iadd hx hb dGR_countOwnedSlots_38 ?_
        refine lv_topi (fun x11 e12 => ?_)
        have e12 : x11 = nI (zSum (fun y => zCn (fun x => zOwd n d x y) ce) i + zCn (fun x => zOwd n d x i) (j + 1)) := e12.trans (by rw [zCn_T (P := fun x => zOwd n d x i) (Classical.byContradiction (fun h => absurd (h_o.mpr h) (by omega)))]; exact nI_add _ 1)
        subst e12
        refine lv_istore_n hx hb dGR_countOwnedSlots_39 rfl hl (Nat.le_of_ble_eq_true rfl) rfl (fun ls hl => ?_)
        have hl : lv_has ls 4 [(1, .int (nI (zSum (fun y => zCn (fun x => zOwd n d x y) ce) i + zCn (fun x => zOwd n d x i) (j + 1)))), (3, .int (nI j)), (2, .int (nI i)), (0, .ref g)] := hl
        refine lv_iinc (k := 1) (v := nI (j + 1)) hx hb dGR_countOwnedSlots_40 hl rfl (by rw [show Int32.ofInt 1 = nI 1 from by decide]; exact nI_add _ _) (Nat.le_of_ble_eq_true rfl) rfl (fun ls hl => ?_)
        have hl : lv_has ls 4 [(3, .int (nI (j + 1))), (1, .int (nI (zSum (fun y => zCn (fun x => zOwd n d x y) ce) i + zCn (fun x => zOwd n d x i) (j + 1)))), (2, .int (nI i)), (0, .ref g)] := hl
        refine lv_goto (tgt := 14) hx hb dGR_countOwnedSlots_43 rfl ?_
        exact jh () ls (lv_sub hl [0, 2, 1, 3] rfl)
      · have h_b := z_eq h_b
        refine lv_iconst (v := nI 0) hx hb dGR_countOwnedSlots_33 (by decide) ?_
        refine lv_goto (tgt := 38) hx hb dGR_countOwnedSlots_34 rfl ?_
        refine lv_iadd hx hb dGR_countOwnedSlots_38 ?_
        refine lv_topi (fun x13 e14 => ?_)
        have e14 : x13 = nI (zSum (fun y => zCn (fun x => zOwd n d x y) ce) i + zCn (fun x => zOwd n d x i) (j + 1)) := e14.trans (by rw [zCn_F (P := fun x => zOwd n d x i) (h_o.mp (by omega))]; exact nI_add _ 0)
        subst e14
        refine lv_istore_n hx hb dGR_countOwnedSlots_39 rfl hl (Nat.le_of_ble_eq_true rfl) rfl (fun ls hl => ?_)
        have hl : lv_has ls 4 [(1, .int (nI (zSum (fun y => zCn (fun x => zOwd n d x y) ce) i + zCn (fun x => zOwd n d x i) (j + 1)))), (3, .int (nI j)), (2, .int (nI i)), (0, .ref g)] := hl
        refine lv_iinc (k := 1) (v := nI (j + 1)) hx hb dGR_countOwnedSlots_40 hl rfl (by rw [show Int32.ofInt 1 = nI 1 from by decide]; exact nI_add _ _) (Nat.le_of_ble_eq_true rfl) rfl (fun ls hl => ?_)
        have hl : lv_has ls 4 [(3, .int (nI (j + 1))), (1, .int (nI (zSum (fun y => zCn (fun x => zOwd n d x y) ce) i + zCn (fun x => zOwd n d x i) (j + 1)))), (2, .int (nI i)), (0, .ref g)] := hl
        refine lv_goto (tgt := 14) hx hb dGR_countOwnedSlots_43 rfl ?_
        exact jh () ls (lv_sub hl [0, 2, 1, 3] rfl)

set_option maxHeartbeats 4000000 in
set_option maxRecDepth 100000 in
theorem f_GR_countOverlaps (l : Launch) (dC : Nat → ClassId) (dI : Nat → Nat → Nat) (g : Nat) (gr : Nat) (gs : Nat) (bg : Nat) (re : Nat) (ce : Nat) (al : Nat) (ed : Nat) (cE : ClassId) (cap : Nat) (a : Nat → Option Nat) (mo : Int32) (n : Nat) (ad : Nat → Nat) (d : Nat → Nat → Nat) (hn : n ≤ cap) (hc : cap < 2147483648) (ha : ∀ k, k < n → a k = some (ad k)) (hd : ∀ j k, k < n → d j k ≤ 1000) (hg : gr ≤ 1000 ∧ gs ≤ 1000 ∧ bg ≤ 1000 ∧ re ≤ 1000 ∧ ce ≤ 1000) : zp_M l yGR_countOverlaps wGR_countOverlaps ({ frames := 5, cells := 0, slots := 0, locals := 110 }) [.ref g] (dC, dI) vwCl ([zob g 1 [.ref al, .int (nI gr), .int (nI gs), .int (nI bg), .int (nI re), .int (nI ce)], zob al 2 [.ref ed, .int (nI n), .int mo], zrf ed cE cap a] ++ zcs n ad (zcf d)) [(cE, .object "java/lang/Object")] (fun _ => True) (fun r => r = nI (zSum (fun k => d 2 k * d 7 k) n) - nI (zSum (fun y => zCn (fun x => zOwd n d x y) ce) re)) := by
  refine zp_head (cc := cGR_countOverlaps) (maxL := 3) (ret := (some .int)) (by decide +kernel) rfl (Nat.le_of_ble_eq_true rfl) ?_
  intro p e s m below meth c ls F hP hK hX hl
  obtain ⟨hx, hb, hml, hr, hlocks, hown, hts⟩ := F
  have hown : s.vm.findClass "SpannedCells$Grid" = some m.cls := hown
  have hz : ∀ w9 ∈ zT, w9.before [.ref g].toArray s = true := fun w9 h => hts w9 (List.mem_cons_of_mem _ h)
  have hl : lv_has ls 3 [(0, .ref g)] := hl
  refine z_q (fun Q hQ => ?_)
  refine lv_iconst (v := nI 0) hx hb dGR_countOverlaps_0 (by decide) ?_
  refine lv_istore_n hx hb dGR_countOverlaps_1 rfl hl (Nat.le_of_ble_eq_true rfl) rfl (fun ls hl => ?_)
  have hl : lv_has ls 3 [(1, .int (nI 0)), (0, .ref g)] := hl
  refine lv_iconst (v := nI 0) hx hb dGR_countOverlaps_2 (by decide) ?_
  refine lv_istore_n hx hb dGR_countOverlaps_3 rfl hl (Nat.le_of_ble_eq_true rfl) rfl (fun ls hl => ?_)
  have hl : lv_has ls 3 [(2, .int (nI 0)), (1, .int (nI 0)), (0, .ref g)] := hl
  refine zl_up (σ := Unit) n (fun i x9 ls => lv_has ls 3 [(2, .int (nI i)), (1, .int (nI (zSum (fun k => d 2 k * d 7 k) i))), (0, .ref g)]) ?_ ?_ 0 (Nat.zero_le _) () ls (lv_sub hl [0, 1, 2] rfl)
  · intro x9 ls hI
    have hl := hI
    have hl : lv_has ls 3 [(2, .int (nI n)), (1, .int (nI (zSum (fun k => d 2 k * d 7 k) n))), (0, .ref g)] := hl
    refine lv_iload_n hx hb dGR_countOverlaps_4 rfl (lv_at hl 0 rfl) ?_
    refine lv_aload_n hx hb dGR_countOverlaps_5 rfl (lv_at hl 2 rfl) ?_
    refine va_get (D := (dC, dI)) (ci := 1) (v := .ref al) (C := RGR) (T := TGR) (N := 6) hx hb hz in_GR hown hK hP 0 rfl rfl 0 (by decide) (hz _ wd_85) (fun _ h9 => h9) rfl dGR_countOverlaps_6 ?_
    refine vp_callSi (W.runV (As := []) (rest := [.int (nI n)]) ⟨hx, hb, hml, hown, hz⟩ (f_AL_size l dC dI al ed mo n ) (cwV 0 hz (z_gV wd_192 wd_193 wd_194 wd_33 wd_195) rfl rfl rfl (by decide +kernel) ⟨Nat.le_of_ble_eq_true rfl, Nat.le_of_ble_eq_true rfl⟩) (zr_preV hK (hP.sub [1] rfl) (va_recv (q0 := 1) hK hP (q := (RAL, TAL, 3)) rfl rfl) [] rfl z_true (fun _ _ _ => trivial)) rfl rfl hl.1 rfl (lv_room (Nat.le_of_ble_eq_true rfl)) dGR_countOverlaps_9 ⟨Nat.le_of_ble_eq_true rfl, Nat.le_of_ble_eq_true rfl⟩) (fun r1 h_r1 => ?_)
    have h_r1 : r1 = nI n := h_r1
    subst h_r1
    have t2 := nI_toInt (n := n) (by omega)
    have t3 := nI_toInt (n := n) (by omega)
    refine lv_icmp_ge (tgt := 53) hx hb dGR_countOverlaps_12 rfl (fun _ => ?_) (fun h => by have h := z_nle h; omega)
    refine lv_iload_n hx hb dGR_countOverlaps_53 rfl (lv_at hl 1 rfl) ?_
    refine lv_aload_n hx hb dGR_countOverlaps_54 rfl (lv_at hl 2 rfl) ?_
    refine vp_callSi (W.runV (As := []) (rest := [.int (nI (zSum (fun k => d 2 k * d 7 k) n))]) ⟨hx, hb, hml, hown, hz⟩ (f_GR_countOwnedSlots l dC dI g gr gs bg re ce al ed cE cap a mo n ad d (by omega) (by omega) (ha) (hd) (hg)) (cwV 0 hz (z_gV wd_416 wd_418 wd_5 wd_30 wd_419) rfl rfl rfl (by decide +kernel) ⟨Nat.le_of_ble_eq_true rfl, Nat.le_of_ble_eq_true rfl⟩) (zr_preV hK (zt_sub hP [0, 1, 2] rfl) (va_recv (q0 := 0) hK hP (q := (RGR, TGR, 6)) rfl rfl) [0] rfl z_true (fun _ _ _ => trivial)) rfl rfl hl.1 rfl (lv_room (Nat.le_of_ble_eq_true rfl)) dGR_countOverlaps_55 ⟨Nat.le_of_ble_eq_true rfl, Nat.le_of_ble_eq_true rfl⟩) (fun r4 h_r4 => ?_)
    have h_r4 : r4 = nI (zSum (fun y => zCn (fun x => zOwd n d x y) ce) re) := h_r4
    subst h_r4
    refine lv_isub hx hb dGR_countOverlaps_58 ?_
    subst hQ
    exact zp_iret hx hb hr hlocks (rfl) dGR_countOverlaps_59
  · intro i hi ih
    intro x9 ls hI
    have hl := hI
    have hl : lv_has ls 3 [(2, .int (nI i)), (1, .int (nI (zSum (fun k => d 2 k * d 7 k) i))), (0, .ref g)] := hl
    refine lv_iload_n hx hb dGR_countOverlaps_4 rfl (lv_at hl 0 rfl) ?_
    refine lv_aload_n hx hb dGR_countOverlaps_5 rfl (lv_at hl 2 rfl) ?_
    refine va_get (D := (dC, dI)) (ci := 1) (v := .ref al) (C := RGR) (T := TGR) (N := 6) hx hb hz in_GR hown hK hP 0 rfl rfl 0 (by decide) (hz _ wd_85) (fun _ h9 => h9) rfl dGR_countOverlaps_6 ?_
    refine vp_callSi (W.runV (As := []) (rest := [.int (nI i)]) ⟨hx, hb, hml, hown, hz⟩ (f_AL_size l dC dI al ed mo n ) (cwV 0 hz (z_gV wd_192 wd_193 wd_194 wd_33 wd_195) rfl rfl rfl (by decide +kernel) ⟨Nat.le_of_ble_eq_true rfl, Nat.le_of_ble_eq_true rfl⟩) (zr_preV hK (hP.sub [1] rfl) (va_recv (q0 := 1) hK hP (q := (RAL, TAL, 3)) rfl rfl) [] rfl z_true (fun _ _ _ => trivial)) rfl rfl hl.1 rfl (lv_room (Nat.le_of_ble_eq_true rfl)) dGR_countOverlaps_9 ⟨Nat.le_of_ble_eq_true rfl, Nat.le_of_ble_eq_true rfl⟩) (fun r5 h_r5 => ?_)
    have h_r5 : r5 = nI n := h_r5
    subst h_r5
    have t6 := nI_toInt (n := i) (by omega)
    have t7 := nI_toInt (n := n) (by omega)
    refine lv_icmp_ge (tgt := 53) hx hb dGR_countOverlaps_12 rfl (fun h => by have h := z_le h; omega) (fun _ => ?_)
    refine lv_iload_n hx hb dGR_countOverlaps_15 rfl (lv_at hl 1 rfl) ?_
    refine lv_aload_n hx hb dGR_countOverlaps_16 rfl (lv_at hl 2 rfl) ?_
    refine va_get (D := (dC, dI)) (ci := 1) (v := .ref al) (C := RGR) (T := TGR) (N := 6) hx hb hz in_GR hown hK hP 0 rfl rfl 0 (by decide) (hz _ wd_85) (fun _ h9 => h9) rfl dGR_countOverlaps_17 ?_
    refine lv_iload_n hx hb dGR_countOverlaps_20 rfl (lv_at hl 0 rfl) ?_
    refine va_csr (W.runV (As := [.int (nI i)]) (rest := [.int (nI (zSum (fun k => d 2 k * d 7 k) i))]) ⟨hx, hb, hml, hown, hz⟩ (f_AL_get l dC dI al ed cE cap a mo n i (ad i) (by omega) (by omega) (by omega) (ha _ (by omega))) (cwV 1 hz (z_gV wd_196 wd_197 wd_198 wd_33 wd_199) rfl rfl rfl (by decide +kernel) ⟨Nat.le_of_ble_eq_true rfl, Nat.le_of_ble_eq_true rfl⟩) (zr_preV hK (hP.sub [1, 2] rfl) (va_recv (q0 := 1) hK hP (q := (RAL, TAL, 3)) rfl rfl) [0] rfl z_true (fun _ _ _ => trivial)) rfl rfl hl.1 rfl (lv_room (Nat.le_of_ble_eq_true rfl)) dGR_countOverlaps_21 ⟨Nat.le_of_ble_eq_true rfl, Nat.le_of_ble_eq_true rfl⟩) (fun r8 h_r8 => ?_)
    have h_r8 : r8 = (ad i) := h_r8
    subst h_r8
    refine va_castE hx hb hown (hz _ wd_210) (va_recv hK hP (q := (RCE, TCE, 10)) rfl (zcs_get rfl (by omega))) dGR_countOverlaps_24 ?_
    refine va_get (D := (dC, dI)) (ci := 7) (v := .int (nI (d 2 i))) (C := RCE) (T := TCE) (N := 10) hx hb hz in_CE hown hK hP (3 + i) (zcs_get rfl (by omega)) rfl 2 (by decide) (hz _ wd_263) (fun _ h9 => h9) rfl dGR_countOverlaps_27 ?_
    refine lv_aload_n hx hb dGR_countOverlaps_30 rfl (lv_at hl 2 rfl) ?_
    refine va_get (D := (dC, dI)) (ci := 1) (v := .ref al) (C := RGR) (T := TGR) (N := 6) hx hb hz in_GR hown hK hP 0 rfl rfl 0 (by decide) (hz _ wd_85) (fun _ h9 => h9) rfl dGR_countOverlaps_31 ?_
    refine lv_iload_n hx hb dGR_countOverlaps_34 rfl (lv_at hl 0 rfl) ?_
    refine va_csr (W.runV (As := [.int (nI i)]) (rest := [.int (nI (d 2 i)), .int (nI (zSum (fun k => d 2 k * d 7 k) i))]) ⟨hx, hb, hml, hown, hz⟩ (f_AL_get l dC dI al ed cE cap a mo n i (ad i) (by omega) (by omega) (by omega) (ha _ (by omega))) (cwV 1 hz (z_gV wd_196 wd_197 wd_198 wd_33 wd_199) rfl rfl rfl (by decide +kernel) ⟨Nat.le_of_ble_eq_true rfl, Nat.le_of_ble_eq_true rfl⟩) (zr_preV hK (hP.sub [1, 2] rfl) (va_recv (q0 := 1) hK hP (q := (RAL, TAL, 3)) rfl rfl) [0] rfl z_true (fun _ _ _ => trivial)) rfl rfl hl.1 rfl (lv_room (Nat.le_of_ble_eq_true rfl)) dGR_countOverlaps_35 ⟨Nat.le_of_ble_eq_true rfl, Nat.le_of_ble_eq_true rfl⟩) (fun r9 h_r9 => ?_)
    have h_r9 : r9 = (ad i) := h_r9
    subst h_r9
    refine va_castE hx hb hown (hz _ wd_210) (va_recv hK hP (q := (RCE, TCE, 10)) rfl (zcs_get rfl (by omega))) dGR_countOverlaps_38 ?_
    refine va_get (D := (dC, dI)) (ci := 7) (v := .int (nI (d 7 i))) (C := RCE) (T := TCE) (N := 10) hx hb hz in_CE hown hK hP (3 + i) (zcs_get rfl (by omega)) rfl 7 (by decide) (hz _ wd_274) (fun _ h9 => h9) rfl dGR_countOverlaps_41 ?_
    refine lv_imul hx hb dGR_countOverlaps_44 ?_
    refine lv_topi (fun x10 e11 => ?_)
    have e11 : x10 = nI ((d 2 i) * (d 7 i)) := e11.trans (pk_mul _ _)
    subst e11
    refine lv_iadd hx hb dGR_countOverlaps_45 ?_
    refine lv_topi (fun x12 e13 => ?_)
    have e13 : x12 = nI (zSum (fun k => d 2 k * d 7 k) (i + 1)) := e13.trans (nI_add _ _)
    subst e13
    refine lv_istore_n hx hb dGR_countOverlaps_46 rfl hl (Nat.le_of_ble_eq_true rfl) rfl (fun ls hl => ?_)
    have hl : lv_has ls 3 [(1, .int (nI (zSum (fun k => d 2 k * d 7 k) (i + 1)))), (2, .int (nI i)), (0, .ref g)] := hl
    refine lv_iinc (k := 1) (v := nI (i + 1)) hx hb dGR_countOverlaps_47 hl rfl (by rw [show Int32.ofInt 1 = nI 1 from by decide]; exact nI_add _ _) (Nat.le_of_ble_eq_true rfl) rfl (fun ls hl => ?_)
    have hl : lv_has ls 3 [(2, .int (nI (i + 1))), (1, .int (nI (zSum (fun k => d 2 k * d 7 k) (i + 1)))), (0, .ref g)] := hl
    refine lv_goto (tgt := 4) hx hb dGR_countOverlaps_50 rfl ?_
    exact ih () ls (lv_sub hl [0, 1, 2] rfl)

set_option maxHeartbeats 4000000 in
set_option maxRecDepth 100000 in
theorem f_GR_firstFreeColumn (l : Launch) (dC : Nat → ClassId) (dI : Nat → Nat → Nat) (g : Nat) (gr : Nat) (gs : Nat) (bg : Nat) (re : Nat) (ce : Nat) (al : Nat) (ed : Nat) (cE : ClassId) (cap : Nat) (a : Nat → Option Nat) (mo : Int32) (n : Nat) (ad : Nat → Nat) (d : Nat → Nat → Nat) (y : Nat) (hn : n ≤ cap) (hc : cap < 2147483648) (ha : ∀ k, k < n → a k = some (ad k)) (hd : ∀ j k, k < n → d j k ≤ 1000) (hg : gr ≤ 1000 ∧ gs ≤ 1000 ∧ bg ≤ 1000 ∧ re ≤ 1000 ∧ ce ≤ 1000) (hy0 : y < 2147483648) : zp_M l yGR_firstFreeColumn wGR_firstFreeColumn ({ frames := 4, cells := 0, slots := 0, locals := 87 }) [.ref g, .int (nI y)] (dC, dI) vwCl ([zob g 1 [.ref al, .int (nI gr), .int (nI gs), .int (nI bg), .int (nI re), .int (nI ce)], zob al 2 [.ref ed, .int (nI n), .int mo], zrf ed cE cap a] ++ zcs n ad (zcf d)) [(cE, .object "java/lang/Object")] (fun _ => True) (fun r => ∃ x, r = nI x ∧ x ≤ 12 ∧ (∀ j, j < x → zOwd n d j y) ∧ (x < 12 → ¬ zOwd n d x y)) := by
  refine zp_head (cc := cGR_firstFreeColumn) (maxL := 3) (ret := (some .int)) (by decide +kernel) rfl (Nat.le_of_ble_eq_true rfl) ?_
  intro p e s m below meth c ls F hP hK hX hl
  obtain ⟨hx, hb, hml, hr, hlocks, hown, hts⟩ := F
  have hown : s.vm.findClass "SpannedCells$Grid" = some m.cls := hown
  have hz : ∀ w9 ∈ zT, w9.before [.ref g, .int (nI y)].toArray s = true := fun w9 h => hts w9 (List.mem_cons_of_mem _ h)
  have hl : lv_has ls 3 [(0, .ref g), (1, .int (nI y))] := hl
  refine z_q (fun Q hQ => ?_)
  refine lv_iconst (v := nI 0) hx hb dGR_firstFreeColumn_0 (by decide) ?_
  refine lv_istore_n hx hb dGR_firstFreeColumn_1 rfl hl (Nat.le_of_ble_eq_true rfl) rfl (fun ls hl => ?_)
  have hl : lv_has ls 3 [(2, .int (nI 0)), (0, .ref g), (1, .int (nI y))] := hl
  refine zl_up (σ := Unit) 12 (fun i x9 ls => lv_has ls 3 [(2, .int (nI i)), (1, .int (nI y)), (0, .ref g)] ∧ (∀ j, j < i → zOwd n d j y)) ?_ ?_ 0 (by decide) () ls ⟨lv_sub hl [0, 2, 1] rfl, fun k hk => absurd hk (Nat.not_lt_zero _)⟩
  · intro x9 ls hI
    obtain ⟨hl, hxI⟩ := hI
    have hl : lv_has ls 3 [(2, .int (nI 12)), (1, .int (nI y)), (0, .ref g)] := hl
    refine lv_iload_n hx hb dGR_firstFreeColumn_2 rfl (lv_at hl 0 rfl) ?_
    refine lv_bipush (v := nI 12) hx hb dGR_firstFreeColumn_3 (by decide) ?_
    refine lv_icmp_ge (tgt := 26) hx hb dGR_firstFreeColumn_5 rfl (fun _ => ?_) (fun h => absurd (by decide) h)
    refine lv_bipush (v := nI 12) hx hb dGR_firstFreeColumn_26 (by decide) ?_
    subst hQ
    exact zp_iret hx hb hr hlocks (⟨12, rfl, by omega, hxI, fun h => absurd h (by omega)⟩) dGR_firstFreeColumn_28
  · intro i hi ih
    intro x9 ls hI
    obtain ⟨hl, hxI⟩ := hI
    have hl : lv_has ls 3 [(2, .int (nI i)), (1, .int (nI y)), (0, .ref g)] := hl
    refine lv_iload_n hx hb dGR_firstFreeColumn_2 rfl (lv_at hl 0 rfl) ?_
    refine lv_bipush (v := nI 12) hx hb dGR_firstFreeColumn_3 (by decide) ?_
    have t1 := nI_toInt (n := i) (by omega)
    have t2 := nI_toInt (n := 12) (by omega)
    refine lv_icmp_ge (tgt := 26) hx hb dGR_firstFreeColumn_5 rfl (fun h => by have h := z_le h; omega) (fun _ => ?_)
    refine lv_aload_n hx hb dGR_firstFreeColumn_8 rfl (lv_at hl 2 rfl) ?_
    refine lv_iload_n hx hb dGR_firstFreeColumn_9 rfl (lv_at hl 0 rfl) ?_
    refine lv_iload_n hx hb dGR_firstFreeColumn_10 rfl (lv_at hl 1 rfl) ?_
    refine vp_callSi (W.runV (As := [.int (nI i), .int (nI y)]) (rest := []) ⟨hx, hb, hml, hown, hz⟩ (f_GR_ownerOf l dC dI g gr gs bg re ce al ed cE cap a mo n ad d (nI i) (nI y) (by omega) (by omega) (ha) (hd) (hg)) (cwV 2 hz (z_gV wd_230 wd_231 wd_232 wd_30 wd_233) rfl rfl rfl (by decide +kernel) ⟨Nat.le_of_ble_eq_true rfl, Nat.le_of_ble_eq_true rfl⟩) (zr_preV hK (zt_sub hP [0, 1, 2] rfl) (va_recv (q0 := 0) hK hP (q := (RGR, TGR, 6)) rfl rfl) [0] rfl z_true (fun _ _ _ => trivial)) rfl rfl hl.1 rfl (lv_room (Nat.le_of_ble_eq_true rfl)) dGR_firstFreeColumn_11 ⟨Nat.le_of_ble_eq_true rfl, Nat.le_of_ble_eq_true rfl⟩) (fun ro h_ro => ?_)
    have h_ro : zFst n (fun k => zTd d k (nI i) (nI y)) ro := h_ro
    have h_o := zFst_none (by omega) (by omega) (by omega) h_ro
    refine lv_iconst (v := (-1)) hx hb dGR_firstFreeColumn_14 (by decide) ?_
    have t3 := z_m1
    refine lv_icmp_ne (tgt := 20) hx hb dGR_firstFreeColumn_15 rfl (fun h_b => ?_) (fun h_b => ?_)
    · have h_b := z_ne h_b
      refine lv_iinc (k := 0) (v := nI (i + 1)) hx hb dGR_firstFreeColumn_20 hl rfl (by rw [show Int32.ofInt 1 = nI 1 from by decide]; exact nI_add _ _) (Nat.le_of_ble_eq_true rfl) rfl (fun ls hl => ?_)
      have hl : lv_has ls 3 [(2, .int (nI (i + 1))), (1, .int (nI y)), (0, .ref g)] := hl
      refine lv_goto (tgt := 2) hx hb dGR_firstFreeColumn_23 rfl ?_
      exact ih () ls ⟨lv_sub hl [0, 1, 2] rfl, lt_s hxI (Classical.byContradiction (fun h => absurd (h_o.mpr h) (by omega)))⟩
    · have h_b := z_eq h_b
      refine lv_iload_n hx hb dGR_firstFreeColumn_18 rfl (lv_at hl 0 rfl) ?_
      subst hQ
      exact zp_iret hx hb hr hlocks (⟨i, rfl, by omega, hxI, fun _ => h_o.mp (by omega)⟩) dGR_firstFreeColumn_19

set_option maxHeartbeats 4000000 in
set_option maxRecDepth 100000 in
theorem f_GR_hasSlot (l : Launch) (dC : Nat → ClassId) (dI : Nat → Nat → Nat) (g : Nat) (gr : Nat) (gs : Nat) (bg : Nat) (re : Nat) (ce : Nat) (al : Nat) (ed : Nat) (cE : ClassId) (cap : Nat) (a : Nat → Option Nat) (mo : Int32) (n : Nat) (ad : Nat → Nat) (d : Nat → Nat → Nat) (x : Int32) (y : Int32) (hn : n ≤ cap) (hc : cap < 2147483648) (ha : ∀ k, k < n → a k = some (ad k)) (hd : ∀ j k, k < n → d j k ≤ 1000) (hg : gr ≤ 1000 ∧ gs ≤ 1000 ∧ bg ≤ 1000 ∧ re ≤ 1000 ∧ ce ≤ 1000) : zp_M l yGR_hasSlot wGR_hasSlot ({ frames := 1, cells := 0, slots := 0, locals := 22 }) [.ref g, .int x, .int y] (dC, dI) vwCl ([zob g 1 [.ref al, .int (nI gr), .int (nI gs), .int (nI bg), .int (nI re), .int (nI ce)], zob al 2 [.ref ed, .int (nI n), .int mo], zrf ed cE cap a] ++ zcs n ad (zcf d)) [(cE, .object "java/lang/Object")] zN (fun r => z_yn r ((0 ≤ x.toInt ∧ x.toInt < ce) ∧ (0 ≤ y.toInt ∧ y.toInt < re))) := by
  refine zp_head (cc := cGR_hasSlot) (maxL := 3) (ret := (some .boolean)) (by decide +kernel) rfl (Nat.le_of_ble_eq_true rfl) ?_
  intro p e s m below meth c ls F hP hK hX hl
  obtain ⟨hx, hb, hml, hr, hlocks, hown, hts⟩ := F
  have hown : s.vm.findClass "SpannedCells$Grid" = some m.cls := hown
  have hz : ∀ w9 ∈ zT, w9.before [.ref g, .int x, .int y].toArray s = true := fun w9 h => hts w9 (List.mem_cons_of_mem _ h)
  have hl : lv_has ls 3 [(0, .ref g), (1, .int x), (2, .int y)] := hl
  have hN := hX
  refine z_q (fun Q hQ => ?_)
  refine lv_iload_n hx hb dGR_hasSlot_0 rfl (lv_at hl 1 rfl) ?_
  refine lv_iconst (v := nI 0) hx hb dGR_hasSlot_1 (by decide) ?_
  refine lv_aload_n hx hb dGR_hasSlot_2 rfl (lv_at hl 0 rfl) ?_
  refine va_get (D := (dC, dI)) (ci := 1) (v := .int (nI ce)) (C := RGR) (T := TGR) (N := 6) hx hb hz in_GR hown hK hP 0 rfl rfl 5 (by decide) (hz _ wd_90) (fun _ h9 => h9) rfl dGR_hasSlot_3 ?_
  refine lv_iconst (v := nI 1) hx hb dGR_hasSlot_6 (by decide) ?_
  refine lv_isub hx hb dGR_hasSlot_7 ?_
  refine vp_callSi (va_Run.run (va_runSN (As := [.int x, .int (nI 0), .int ((nI ce) - (nI 1))]) (rest := []) ⟨hx, hb, hml, hown, hz⟩ (f_SC_within l dC dI x (nI 0) ((nI ce) - (nI 1)) ) ⟨va_cnB 3 hz (z_gI wd_221) rfl rfl rfl (hN ("SpannedCells$Grid", 77, ySC_within, "SpannedCells") (List.mem_of_getElem? (i := 5) rfl)) (hz _ wd_29) (by decide +kernel) ⟨Nat.le_of_ble_eq_true rfl, Nat.le_of_ble_eq_true rfl⟩, (hz _ wd_220), trivial⟩ (zr_preS hK (hP.sub [] rfl) [] rfl z_true (fun _ _ _ => trivial)) rfl rfl hl.1 rfl (lv_room (Nat.le_of_ble_eq_true rfl)) dGR_hasSlot_8 ⟨Nat.le_of_ble_eq_true rfl, Nat.le_of_ble_eq_true rfl⟩)) (fun ra h_ra => ?_)
  have h_ra : z_yn ra ((nI 0).toInt ≤ x.toInt ∧ x.toInt ≤ ((nI ce) - (nI 1)).toInt) := h_ra
  have t_a := pk_sub_toInt (a := ce) (b := 1) (by omega) (by omega)
  have t_0 := nI_toInt (n := 0) (by omega)
  refine lv_if_eq (tgt := 32) hx hb dGR_hasSlot_11 rfl (fun h_b => ?_) (fun h_b => ?_)
  · have h_b := z_yF h_ra h_b
    refine lv_iconst (v := nI 0) hx hb dGR_hasSlot_32 (by decide) ?_
    subst hQ
    exact zp_zret hx hb hr hlocks (Or.inl rfl) (z_y0 (by omega)) dGR_hasSlot_33
  · have h_b := z_yT h_ra h_b
    refine lv_iload_n hx hb dGR_hasSlot_14 rfl (lv_at hl 2 rfl) ?_
    refine lv_iconst (v := nI 0) hx hb dGR_hasSlot_15 (by decide) ?_
    refine lv_aload_n hx hb dGR_hasSlot_16 rfl (lv_at hl 0 rfl) ?_
    refine va_get (D := (dC, dI)) (ci := 1) (v := .int (nI re)) (C := RGR) (T := TGR) (N := 6) hx hb hz in_GR hown hK hP 0 rfl rfl 4 (by decide) (hz _ wd_89) (fun _ h9 => h9) rfl dGR_hasSlot_17 ?_
    refine lv_iconst (v := nI 1) hx hb dGR_hasSlot_20 (by decide) ?_
    refine lv_isub hx hb dGR_hasSlot_21 ?_
    refine vp_callSi (va_Run.run (va_runSN (As := [.int y, .int (nI 0), .int ((nI re) - (nI 1))]) (rest := []) ⟨hx, hb, hml, hown, hz⟩ (f_SC_within l dC dI y (nI 0) ((nI re) - (nI 1)) ) ⟨va_cnB 3 hz (z_gI wd_221) rfl rfl rfl (hN ("SpannedCells$Grid", 77, ySC_within, "SpannedCells") (List.mem_of_getElem? (i := 5) rfl)) (hz _ wd_29) (by decide +kernel) ⟨Nat.le_of_ble_eq_true rfl, Nat.le_of_ble_eq_true rfl⟩, (hz _ wd_220), trivial⟩ (zr_preS hK (hP.sub [] rfl) [] rfl z_true (fun _ _ _ => trivial)) rfl rfl hl.1 rfl (lv_room (Nat.le_of_ble_eq_true rfl)) dGR_hasSlot_22 ⟨Nat.le_of_ble_eq_true rfl, Nat.le_of_ble_eq_true rfl⟩)) (fun rb h_rb => ?_)
    have h_rb : z_yn rb ((nI 0).toInt ≤ y.toInt ∧ y.toInt ≤ ((nI re) - (nI 1)).toInt) := h_rb
    have t_b := pk_sub_toInt (a := re) (b := 1) (by omega) (by omega)
    have h_a := h_b
    refine lv_if_eq (tgt := 32) hx hb dGR_hasSlot_25 rfl (fun h_b => ?_) (fun h_b => ?_)
    · have h_b := z_yF h_rb h_b
      refine lv_iconst (v := nI 0) hx hb dGR_hasSlot_32 (by decide) ?_
      subst hQ
      exact zp_zret hx hb hr hlocks (Or.inl rfl) (z_y0 (by omega)) dGR_hasSlot_33
    · have h_b := z_yT h_rb h_b
      refine lv_iconst (v := nI 1) hx hb dGR_hasSlot_28 (by decide) ?_
      refine lv_goto (tgt := 33) hx hb dGR_hasSlot_29 rfl ?_
      subst hQ
      exact zp_zret hx hb hr hlocks (Or.inr rfl) (z_y1 (by omega)) dGR_hasSlot_33

set_option maxHeartbeats 4000000 in
set_option maxRecDepth 100000 in
theorem f_CE_prevailsOver (l : Launch) (dC : Nat → ClassId) (dI : Nat → Nat → Nat) (a : Nat) (f0 : Nat) (f1 : Nat) (f2 : Nat) (f3 : Nat) (f4 : Nat) (f5 : Nat) (f6 : Nat) (f7 : Nat) (f8 : Nat) (f9 : Nat) (a2 : Nat) (e0 : Nat) (e1 : Nat) (e2 : Nat) (e3 : Nat) (e4 : Nat) (e5 : Nat) (e6 : Nat) (e7 : Nat) (e8 : Nat) (e9 : Nat) (hh : f8 ≤ 1000 ∧ f9 ≤ 1000 ∧ e8 ≤ 1000 ∧ e9 ≤ 1000) : zp_M l yCE_prevailsOver wCE_prevailsOver ({ frames := 0, cells := 0, slots := 0, locals := 0 }) [.ref a, .ref a2] (dC, dI) vwCl [zob a 7 [.int (nI f0), .int (nI f1), .int (nI f2), .int (nI f3), .int (nI f4), .int (nI f5), .int (nI f6), .int (nI f7), .int (nI f8), .int (nI f9)], zob a2 7 [.int (nI e0), .int (nI e1), .int (nI e2), .int (nI e3), .int (nI e4), .int (nI e5), .int (nI e6), .int (nI e7), .int (nI e8), .int (nI e9)]] [] (fun _ => True) (fun r => z_yn r (zPv f8 f9 e8 e9)) := by
  refine zp_head (cc := cCE_prevailsOver) (maxL := 2) (ret := (some .boolean)) (by decide +kernel) rfl (Nat.le_of_ble_eq_true rfl) ?_
  intro p e s m below meth c ls F hP hK hX hl
  obtain ⟨hx, hb, hml, hr, hlocks, hown, hts⟩ := F
  have hown : s.vm.findClass "SpannedCells$Cell" = some m.cls := hown
  have hz : ∀ w9 ∈ zT, w9.before [.ref a, .ref a2].toArray s = true := fun w9 h => hts w9 (List.mem_cons_of_mem _ h)
  have hl : lv_has ls 2 [(0, .ref a), (1, .ref a2)] := hl
  refine z_q (fun Q hQ => ?_)
  refine lv_aload_n hx hb dCE_prevailsOver_0 rfl (lv_at hl 1 rfl) ?_
  refine va_get (D := (dC, dI)) (ci := 7) (v := .int (nI e9)) (C := RCE) (T := TCE) (N := 10) hx hb hz in_CE hown hK hP 1 rfl rfl 9 (by decide) (hz _ wd_276) (fun _ h9 => h9) rfl dCE_prevailsOver_1 ?_
  refine lv_iconst (v := nI 4) hx hb dCE_prevailsOver_4 (by decide) ?_
  have t1 := nI_toInt (n := e9) (by omega)
  have t2 := nI_toInt (n := 4) (by omega)
  refine lv_icmp_ne (tgt := 10) hx hb dCE_prevailsOver_5 rfl (fun h3 => ?_) (fun h3 => ?_)
  · have h3 := z_ne h3
    refine lv_aload_n hx hb dCE_prevailsOver_10 rfl (lv_at hl 0 rfl) ?_
    refine va_get (D := (dC, dI)) (ci := 7) (v := .int (nI f9)) (C := RCE) (T := TCE) (N := 10) hx hb hz in_CE hown hK hP 0 rfl rfl 9 (by decide) (hz _ wd_276) (fun _ h9 => h9) rfl dCE_prevailsOver_11 ?_
    refine lv_iconst (v := nI 4) hx hb dCE_prevailsOver_14 (by decide) ?_
    have t4 := nI_toInt (n := f9) (by omega)
    have t5 := nI_toInt (n := 4) (by omega)
    refine lv_icmp_ne (tgt := 20) hx hb dCE_prevailsOver_15 rfl (fun h6 => ?_) (fun h6 => ?_)
    · have h6 := z_ne h6
      refine lv_aload_n hx hb dCE_prevailsOver_20 rfl (lv_at hl 0 rfl) ?_
      refine va_get (D := (dC, dI)) (ci := 7) (v := .int (nI f8)) (C := RCE) (T := TCE) (N := 10) hx hb hz in_CE hown hK hP 0 rfl rfl 8 (by decide) (hz _ wd_275) (fun _ h9 => h9) rfl dCE_prevailsOver_21 ?_
      refine lv_aload_n hx hb dCE_prevailsOver_24 rfl (lv_at hl 1 rfl) ?_
      refine va_get (D := (dC, dI)) (ci := 7) (v := .int (nI e8)) (C := RCE) (T := TCE) (N := 10) hx hb hz in_CE hown hK hP 1 rfl rfl 8 (by decide) (hz _ wd_275) (fun _ h9 => h9) rfl dCE_prevailsOver_25 ?_
      have t7 := nI_toInt (n := f8) (by omega)
      have t8 := nI_toInt (n := e8) (by omega)
      refine lv_icmp_eq (tgt := 48) hx hb dCE_prevailsOver_28 rfl (fun h9 => ?_) (fun h9 => ?_)
      · have h9 := z_eq h9
        refine lv_aload_n hx hb dCE_prevailsOver_48 rfl (lv_at hl 0 rfl) ?_
        refine va_get (D := (dC, dI)) (ci := 7) (v := .int (nI f9)) (C := RCE) (T := TCE) (N := 10) hx hb hz in_CE hown hK hP 0 rfl rfl 9 (by decide) (hz _ wd_276) (fun _ h9 => h9) rfl dCE_prevailsOver_49 ?_
        refine lv_aload_n hx hb dCE_prevailsOver_52 rfl (lv_at hl 1 rfl) ?_
        refine va_get (D := (dC, dI)) (ci := 7) (v := .int (nI e9)) (C := RCE) (T := TCE) (N := 10) hx hb hz in_CE hown hK hP 1 rfl rfl 9 (by decide) (hz _ wd_276) (fun _ h9 => h9) rfl dCE_prevailsOver_53 ?_
        have t10 := nI_toInt (n := f9) (by omega)
        have t11 := nI_toInt (n := e9) (by omega)
        refine lv_icmp_le (tgt := 63) hx hb dCE_prevailsOver_56 rfl (fun h12 => ?_) (fun h12 => ?_)
        · have h12 := z_le h12
          refine lv_iconst (v := nI 0) hx hb dCE_prevailsOver_63 (by decide) ?_
          subst hQ
          exact zp_zret hx hb hr hlocks (Or.inl rfl) (z_y0 (show ¬ (_ ∧ _) by omega)) dCE_prevailsOver_64
        · have h12 := z_nle h12
          refine lv_iconst (v := nI 1) hx hb dCE_prevailsOver_59 (by decide) ?_
          refine lv_goto (tgt := 64) hx hb dCE_prevailsOver_60 rfl ?_
          subst hQ
          exact zp_zret hx hb hr hlocks (Or.inr rfl) (z_y1 (show _ ∧ _ by omega)) dCE_prevailsOver_64
      · have h9 := z_ne h9
        refine lv_aload_n hx hb dCE_prevailsOver_31 rfl (lv_at hl 0 rfl) ?_
        refine va_get (D := (dC, dI)) (ci := 7) (v := .int (nI f8)) (C := RCE) (T := TCE) (N := 10) hx hb hz in_CE hown hK hP 0 rfl rfl 8 (by decide) (hz _ wd_275) (fun _ h9 => h9) rfl dCE_prevailsOver_32 ?_
        refine lv_aload_n hx hb dCE_prevailsOver_35 rfl (lv_at hl 1 rfl) ?_
        refine va_get (D := (dC, dI)) (ci := 7) (v := .int (nI e8)) (C := RCE) (T := TCE) (N := 10) hx hb hz in_CE hown hK hP 1 rfl rfl 8 (by decide) (hz _ wd_275) (fun _ h9 => h9) rfl dCE_prevailsOver_36 ?_
        have t13 := nI_toInt (n := f8) (by omega)
        have t14 := nI_toInt (n := e8) (by omega)
        refine lv_icmp_le (tgt := 46) hx hb dCE_prevailsOver_39 rfl (fun h15 => ?_) (fun h15 => ?_)
        · have h15 := z_le h15
          refine lv_iconst (v := nI 0) hx hb dCE_prevailsOver_46 (by decide) ?_
          subst hQ
          exact zp_zret hx hb hr hlocks (Or.inl rfl) (z_y0 (show ¬ (_ ∧ _) by omega)) dCE_prevailsOver_47
        · have h15 := z_nle h15
          refine lv_iconst (v := nI 1) hx hb dCE_prevailsOver_42 (by decide) ?_
          refine lv_goto (tgt := 47) hx hb dCE_prevailsOver_43 rfl ?_
          subst hQ
          exact zp_zret hx hb hr hlocks (Or.inr rfl) (z_y1 (show _ ∧ _ by omega)) dCE_prevailsOver_47
    · have h6 := z_eq h6
      refine lv_iconst (v := nI 1) hx hb dCE_prevailsOver_18 (by decide) ?_
      subst hQ
      exact zp_zret hx hb hr hlocks (Or.inr rfl) (z_y1 (show _ ∧ _ by omega)) dCE_prevailsOver_19
  · have h3 := z_eq h3
    refine lv_iconst (v := nI 0) hx hb dCE_prevailsOver_8 (by decide) ?_
    subst hQ
    exact zp_zret hx hb hr hlocks (Or.inl rfl) (z_y0 (show ¬ (_ ∧ _) by omega)) dCE_prevailsOver_9
