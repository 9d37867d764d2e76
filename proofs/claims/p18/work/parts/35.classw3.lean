set_option maxHeartbeats 4000000 in
set_option maxRecDepth 100000 in
theorem f_AL_clear (l : Launch) (dC : Nat → ClassId) (dI : Nat → Nat → Nat) (al : Nat) (ed : Nat) (cE : ClassId) (cap : Nat) (a : Nat → Option Nat) (mo : Int32) (n : Nat) (hn : n ≤ cap) (hc : cap < 2147483648) : zw_Mv (S := (Int32) × (Nat → Option Nat)) l yAL_clear wAL_clear ({ frames := 0, cells := 0, slots := 0, locals := 0 }) [.ref al] (dC, dI) vwCl [zob al 2 [.ref ed, .int (nI n), .int mo], zrf ed cE cap a] [(cE, .object "java/lang/Object")] (fun _ _ => True) (fun u => match u with | (mo2, a2) => True) (fun u => match u with | (mo2, a2) => [zob al 2 [.ref ed, .int (nI 0), .int mo2], zrf ed cE cap a2]) (fun u => match u with | (mo2, a2) => []) 0 0 := by
  refine zw_headv (cc := cAL_clear) (maxL := 4) (ret := none) (by decide +kernel) rfl (Nat.le_of_ble_eq_true rfl) ?_
  intro p e s m below meth c ls A F hnm hA hP hK hD hS hX hl
  obtain ⟨hx, hb, hml, hr, hlocks, hown, hts⟩ := F
  have hown : s.vm.findClass "java/util/ArrayList" = some m.cls := hown
  have hz : ∀ w9 ∈ zT, w9.before [.ref al].toArray s = true := fun w9 h => hts w9 (List.mem_cons_of_mem _ h)
  have hl : lv_has ls 4 [(0, .ref al)] := hl
  refine z_q (fun Q hQ => ?_)
  refine lv_aload_n hx hb dAL_clear_0 rfl (lv_at hl 0 rfl) ?_
  refine lv_dup hx hb dAL_clear_1 rfl ?_
  refine va_get (D := (dC, dI)) (ci := 2) (v := .int mo) (C := RAL) (T := TAL) (N := 3) hx hb hz in_AL hown hK hP 0 rfl rfl 2 (by decide) (hz _ wd_76) (fun x9 h9 => u_same (hz _ wd_77) x9 h9) rfl dAL_clear_2 ?_
  refine lv_iconst (v := nI 1) hx hb dAL_clear_5 (by decide) ?_
  refine lv_iadd hx hb dAL_clear_6 ?_
  refine va_put (D := (dC, dI)) (ci := 2) (v := .int (mo + (nI 1))) (ty := .int) (C := RAL) (T := TAL) (N := 3) hx hb hz in_AL tyAL tokAL nokAL hown hK hP hD hS 0 rfl rfl 2 (by decide) (hz _ wd_76) (fun x9 h9 => u_same (hz _ wd_77) x9 h9) rfl (by decide +kernel) rfl rfl (Nat.le_of_ble_eq_true rfl) dAL_clear_7 (fun H locs hP hD hS => ?_)
  have hP : va_P (dC, dI) vwCl [zob al 2 [.ref ed, .int (nI n), .int (mo + (nI 1))], zrf ed cE cap a] H := hP
  have hD : va_D A [zob al 2 [.ref ed, .int (nI n), .int (mo + (nI 1))], zrf ed cE cap a] := hD
  refine lv_aload_n hx hb dAL_clear_10 rfl (lv_at hl 0 rfl) ?_
  refine va_get (D := (dC, dI)) (ci := 2) (v := .ref ed) (C := RAL) (T := TAL) (N := 3) hx hb hz in_AL hown hK hP 0 rfl rfl 0 (by decide) (hz _ wd_73) (fun _ h9 => h9) rfl dAL_clear_11 ?_
  refine lv_astore_n hx hb dAL_clear_14 rfl hl (Nat.le_of_ble_eq_true rfl) rfl (fun ls hl => ?_)
  have hl : lv_has ls 4 [(1, .ref ed), (0, .ref al)] := hl
  refine lv_aload_n hx hb dAL_clear_15 rfl (lv_at hl 1 rfl) ?_
  refine va_get (D := (dC, dI)) (ci := 2) (v := .int (nI n)) (C := RAL) (T := TAL) (N := 3) hx hb hz in_AL hown hK hP 0 rfl rfl 1 (by decide) (hz _ wd_74) (fun _ h9 => h9) rfl dAL_clear_16 ?_
  refine lv_istore_n hx hb dAL_clear_19 rfl hl (Nat.le_of_ble_eq_true rfl) rfl (fun ls hl => ?_)
  have hl : lv_has ls 4 [(2, .int (nI n)), (1, .ref ed), (0, .ref al)] := hl
  refine lv_aload_n hx hb dAL_clear_20 rfl (lv_at hl 2 rfl) ?_
  refine lv_iconst (v := nI 0) hx hb dAL_clear_21 (by decide) ?_
  refine lv_dup_x1 hx hb dAL_clear_22 rfl rfl ?_
  refine va_put (D := (dC, dI)) (ci := 2) (v := .int (nI 0)) (ty := .int) (C := RAL) (T := TAL) (N := 3) hx hb hz in_AL tyAL tokAL nokAL hown hK hP hD hS 0 rfl rfl 1 (by decide) (hz _ wd_74) (fun _ h9 => h9) rfl (by decide +kernel) rfl rfl (Nat.le_of_ble_eq_true rfl) dAL_clear_23 (fun H locs hP hD hS => ?_)
  have hP : va_P (dC, dI) vwCl [zob al 2 [.ref ed, .int (nI 0), .int (mo + (nI 1))], zrf ed cE cap a] H := hP
  have hD : va_D A [zob al 2 [.ref ed, .int (nI 0), .int (mo + (nI 1))], zrf ed cE cap a] := hD
  refine lv_istore_n hx hb dAL_clear_26 rfl hl (Nat.le_of_ble_eq_true rfl) rfl (fun ls hl => ?_)
  have hl : lv_has ls 4 [(3, .int (nI 0)), (2, .int (nI n)), (1, .ref ed), (0, .ref al)] := hl
  refine zl_upW (σ := (Nat → Option Nat)) n (fun i b ls H locs => lv_has ls 4 [(3, .int (nI i)), (2, .int (nI n)), (1, .ref ed), (0, .ref al)] ∧ va_P (dC, dI) vwCl [zob al 2 [.ref ed, .int (nI 0), .int (mo + nI 1)], zrf ed cE cap b] H ∧ va_D A [zob al 2 [.ref ed, .int (nI 0), .int (mo + nI 1)], zrf ed cE cap b] ∧ va_S A s.heap H locs) ?_ ?_ 0 (Nat.zero_le _) a ls H locs ⟨lv_sub hl [0, 1, 2, 3] rfl, hP, hD, hS⟩
  · intro x9 ls H locs hI
    obtain ⟨b, rfl⟩ : ∃ z, z = x9 := ⟨_, rfl⟩
    obtain ⟨hl, hP, hD, hS⟩ := hI
    have hl : lv_has ls 4 [(3, .int (nI n)), (2, .int (nI n)), (1, .ref ed), (0, .ref al)] := hl
    have hP : va_P (dC, dI) vwCl [zob al 2 [.ref ed, .int (nI 0), .int (mo + nI 1)], zrf ed cE cap b] H := hP
    have hD : va_D A [zob al 2 [.ref ed, .int (nI 0), .int (mo + nI 1)], zrf ed cE cap b] := hD
    refine lv_iload_n hx hb dAL_clear_27 rfl (lv_at hl 0 rfl) ?_
    refine lv_iload_n hx hb dAL_clear_28 rfl (lv_at hl 1 rfl) ?_
    have t1 := nI_toInt (n := n) (by omega)
    have t2 := nI_toInt (n := n) (by omega)
    refine lv_icmp_ge (tgt := 42) hx hb dAL_clear_29 rfl (fun _ => ?_) (fun h => by have h := z_nle h; omega)
    subst hQ
    exact zw_vret (D := (dC, dI)) (cl := vwCl) (A := A) (mo + nI 1, b) hx hb hr hlocks (trivial) (hP.sub [0, 1] rfl) (hK.sub [] rfl) (hD.sub [0, 1] (by decide) rfl) hS dAL_clear_42
  · intro i hi ih
    intro x9 ls H locs hI
    obtain ⟨b, rfl⟩ : ∃ z, z = x9 := ⟨_, rfl⟩
    obtain ⟨hl, hP, hD, hS⟩ := hI
    have hl : lv_has ls 4 [(3, .int (nI i)), (2, .int (nI n)), (1, .ref ed), (0, .ref al)] := hl
    have hP : va_P (dC, dI) vwCl [zob al 2 [.ref ed, .int (nI 0), .int (mo + nI 1)], zrf ed cE cap b] H := hP
    have hD : va_D A [zob al 2 [.ref ed, .int (nI 0), .int (mo + nI 1)], zrf ed cE cap b] := hD
    refine lv_iload_n hx hb dAL_clear_27 rfl (lv_at hl 0 rfl) ?_
    refine lv_iload_n hx hb dAL_clear_28 rfl (lv_at hl 1 rfl) ?_
    have t3 := nI_toInt (n := i) (by omega)
    have t4 := nI_toInt (n := n) (by omega)
    refine lv_icmp_ge (tgt := 42) hx hb dAL_clear_29 rfl (fun h => by have h := z_le h; omega) (fun _ => ?_)
    refine lv_aload_n hx hb dAL_clear_32 rfl (lv_at hl 2 rfl) ?_
    refine lv_iload_n hx hb dAL_clear_33 rfl (lv_at hl 0 rfl) ?_
    refine lv_null hx hb dAL_clear_34 ?_
    refine va_astqN hx hb hK hP hD hS 1 0 rfl rfl (vp_in_nI (by omega) (by omega)) dAL_clear_35 (fun H locs hP hD hS => ?_)
    have hP : va_P (dC, dI) vwCl [zob al 2 [.ref ed, .int (nI 0), .int (mo + nI 1)], zrf ed cE cap (va_up b (nI i).toNatClampNeg none)] H := hP
    have hD : va_D A [zob al 2 [.ref ed, .int (nI 0), .int (mo + nI 1)], zrf ed cE cap (va_up b (nI i).toNatClampNeg none)] := hD
    refine lv_iinc (k := 0) (v := nI (i + 1)) hx hb dAL_clear_36 hl rfl (by rw [show Int32.ofInt 1 = nI 1 from by decide]; exact nI_add _ _) (Nat.le_of_ble_eq_true rfl) rfl (fun ls hl => ?_)
    have hl : lv_has ls 4 [(3, .int (nI (i + 1))), (2, .int (nI n)), (1, .ref ed), (0, .ref al)] := hl
    refine lv_goto (tgt := 27) hx hb dAL_clear_39 rfl ?_
    exact ih (va_up b (nI i).toNatClampNeg none) ls H locs ⟨lv_sub hl [0, 1, 2, 3] rfl, hP, hD, hS⟩

set_option maxHeartbeats 4000000 in
set_option maxRecDepth 100000 in
theorem f_GR_empty (l : Launch) (dC : Nat → ClassId) (dI : Nat → Nat → Nat) (g : Nat) (al : Nat) (gr : Nat) (gs : Nat) (bg : Nat) (re : Nat) (ce : Nat) (ed : Nat) (cE : ClassId) (cap : Nat) (a : Nat → Option Nat) (mo : Int32) (n : Nat) (hn : n ≤ cap) (hc : cap < 2147483648) : zw_Mv (S := (Int32) × (Nat → Option Nat)) l yGR_empty wGR_empty ({ frames := 1, cells := 0, slots := 0, locals := 23 }) [.ref g] (dC, dI) vwCl [zob g 1 [.ref al, .int (nI gr), .int (nI gs), .int (nI bg), .int (nI re), .int (nI ce)], zob al 2 [.ref ed, .int (nI n), .int mo], zrf ed cE cap a] [(cE, .object "java/lang/Object")] (fun _ _ => True) (fun u => match u with | (mo2, a2) => True) (fun u => match u with | (mo2, a2) => [zob g 1 [.ref al, .int (nI 1), .int (nI 0), .int (nI 0), .int (nI 0), .int (nI 0)], zob al 2 [.ref ed, .int (nI 0), .int mo2], zrf ed cE cap a2]) (fun u => match u with | (mo2, a2) => []) 0 0 := by
  refine zw_headv (cc := cGR_empty) (maxL := 1) (ret := none) (by decide +kernel) rfl (Nat.le_of_ble_eq_true rfl) ?_
  intro p e s m below meth c ls A F hnm hA hP hK hD hS hX hl
  obtain ⟨hx, hb, hml, hr, hlocks, hown, hts⟩ := F
  have hown : s.vm.findClass "SpannedCells$Grid" = some m.cls := hown
  have hz : ∀ w9 ∈ zT, w9.before [.ref g].toArray s = true := fun w9 h => hts w9 (List.mem_cons_of_mem _ h)
  have hl : lv_has ls 1 [(0, .ref g)] := hl
  refine z_q (fun Q hQ => ?_)
  refine lv_aload_n hx hb dGR_empty_0 rfl (lv_at hl 0 rfl) ?_
  refine va_get (D := (dC, dI)) (ci := 1) (v := .ref al) (C := RGR) (T := TGR) (N := 6) hx hb hz in_GR hown hK hP 0 rfl rfl 0 (by decide) (hz _ wd_85) (fun _ h9 => h9) rfl dGR_empty_1 ?_
  refine zw_callv (wr := [zob g 1 [.ref al, .int (nI gr), .int (nI gs), .int (nI bg), .int (nI re), .int (nI ce)]]) hK hP hD hS hA [1, 2] [0] rfl rfl (by decide) (by decide) (va_runV (As := []) (rest := []) ⟨hx, hb, hml, hown, hz⟩ ((f_AL_clear l dC dI al ed cE cap a mo n (by omega) (by omega)) s.heap.size) (cwV 0 hz (z_gV wd_383 wd_384 wd_385 wd_33 wd_386) rfl rfl rfl (by decide +kernel) ⟨Nat.le_of_ble_eq_true rfl, Nat.le_of_ble_eq_true rfl⟩) (zw_preV (q0 := 1) (q := (RAL, TAL, 3)) hK hP hD rfl rfl [1, 2] (by decide) rfl [0] rfl z_true (fun _ _ _ => trivial)) rfl rfl hl.1 rfl (lv_room (Nat.le_of_ble_eq_true rfl)) dGR_empty_4 ⟨Nat.le_of_ble_eq_true rfl, Nat.le_of_ble_eq_true rfl⟩) (fun u H locs h_r1 hP hD hK hS => ?_)
  obtain ⟨x1, x2⟩ := u
  have hP : va_P (dC, dI) vwCl [zob g 1 [.ref al, .int (nI gr), .int (nI gs), .int (nI bg), .int (nI re), .int (nI ce)], zob al 2 [.ref ed, .int (nI 0), .int x1], zrf ed cE cap x2] H := hP.sub [0, 1, 2] rfl
  have hD : va_D A [zob g 1 [.ref al, .int (nI gr), .int (nI gs), .int (nI bg), .int (nI re), .int (nI ce)], zob al 2 [.ref ed, .int (nI 0), .int x1], zrf ed cE cap x2] := hD.sub [0, 1, 2] (by decide) rfl
  have hK : va_K (dC, dI) vwCl [(cE, .object "java/lang/Object")] s := hK
  refine lv_aload_n hx hb dGR_empty_7 rfl (lv_at hl 0 rfl) ?_
  refine lv_iconst (v := nI 1) hx hb dGR_empty_8 (by decide) ?_
  refine va_put (D := (dC, dI)) (ci := 1) (v := .int (nI 1)) (ty := .int) (C := RGR) (T := TGR) (N := 6) hx hb hz in_GR tyGR tokGR nokGR hown hK hP hD hS 0 rfl rfl 1 (by decide) (hz _ wd_86) (fun _ h9 => h9) rfl (by decide +kernel) rfl rfl (Nat.le_of_ble_eq_true rfl) dGR_empty_9 (fun H locs hP hD hS => ?_)
  have hP : va_P (dC, dI) vwCl [zob g 1 [.ref al, .int (nI 1), .int (nI gs), .int (nI bg), .int (nI re), .int (nI ce)], zob al 2 [.ref ed, .int (nI 0), .int x1], zrf ed cE cap x2] H := hP
  have hD : va_D A [zob g 1 [.ref al, .int (nI 1), .int (nI gs), .int (nI bg), .int (nI re), .int (nI ce)], zob al 2 [.ref ed, .int (nI 0), .int x1], zrf ed cE cap x2] := hD
  refine lv_aload_n hx hb dGR_empty_12 rfl (lv_at hl 0 rfl) ?_
  refine lv_iconst (v := nI 0) hx hb dGR_empty_13 (by decide) ?_
  refine va_put (D := (dC, dI)) (ci := 1) (v := .int (nI 0)) (ty := .int) (C := RGR) (T := TGR) (N := 6) hx hb hz in_GR tyGR tokGR nokGR hown hK hP hD hS 0 rfl rfl 2 (by decide) (hz _ wd_87) (fun _ h9 => h9) rfl (by decide +kernel) rfl rfl (Nat.le_of_ble_eq_true rfl) dGR_empty_14 (fun H locs hP hD hS => ?_)
  have hP : va_P (dC, dI) vwCl [zob g 1 [.ref al, .int (nI 1), .int (nI 0), .int (nI bg), .int (nI re), .int (nI ce)], zob al 2 [.ref ed, .int (nI 0), .int x1], zrf ed cE cap x2] H := hP
  have hD : va_D A [zob g 1 [.ref al, .int (nI 1), .int (nI 0), .int (nI bg), .int (nI re), .int (nI ce)], zob al 2 [.ref ed, .int (nI 0), .int x1], zrf ed cE cap x2] := hD
  refine lv_aload_n hx hb dGR_empty_17 rfl (lv_at hl 0 rfl) ?_
  refine lv_iconst (v := nI 0) hx hb dGR_empty_18 (by decide) ?_
  refine va_put (D := (dC, dI)) (ci := 1) (v := .int (nI 0)) (ty := .int) (C := RGR) (T := TGR) (N := 6) hx hb hz in_GR tyGR tokGR nokGR hown hK hP hD hS 0 rfl rfl 3 (by decide) (hz _ wd_88) (fun _ h9 => h9) rfl (by decide +kernel) rfl rfl (Nat.le_of_ble_eq_true rfl) dGR_empty_19 (fun H locs hP hD hS => ?_)
  have hP : va_P (dC, dI) vwCl [zob g 1 [.ref al, .int (nI 1), .int (nI 0), .int (nI 0), .int (nI re), .int (nI ce)], zob al 2 [.ref ed, .int (nI 0), .int x1], zrf ed cE cap x2] H := hP
  have hD : va_D A [zob g 1 [.ref al, .int (nI 1), .int (nI 0), .int (nI 0), .int (nI re), .int (nI ce)], zob al 2 [.ref ed, .int (nI 0), .int x1], zrf ed cE cap x2] := hD
  refine lv_aload_n hx hb dGR_empty_22 rfl (lv_at hl 0 rfl) ?_
  refine lv_iconst (v := nI 0) hx hb dGR_empty_23 (by decide) ?_
  refine va_put (D := (dC, dI)) (ci := 1) (v := .int (nI 0)) (ty := .int) (C := RGR) (T := TGR) (N := 6) hx hb hz in_GR tyGR tokGR nokGR hown hK hP hD hS 0 rfl rfl 4 (by decide) (hz _ wd_89) (fun _ h9 => h9) rfl (by decide +kernel) rfl rfl (Nat.le_of_ble_eq_true rfl) dGR_empty_24 (fun H locs hP hD hS => ?_)
  have hP : va_P (dC, dI) vwCl [zob g 1 [.ref al, .int (nI 1), .int (nI 0), .int (nI 0), .int (nI 0), .int (nI ce)], zob al 2 [.ref ed, .int (nI 0), .int x1], zrf ed cE cap x2] H := hP
  have hD : va_D A [zob g 1 [.ref al, .int (nI 1), .int (nI 0), .int (nI 0), .int (nI 0), .int (nI ce)], zob al 2 [.ref ed, .int (nI 0), .int x1], zrf ed cE cap x2] := hD
  refine lv_aload_n hx hb dGR_empty_27 rfl (lv_at hl 0 rfl) ?_
  refine lv_iconst (v := nI 0) hx hb dGR_empty_28 (by decide) ?_
  refine va_put (D := (dC, dI)) (ci := 1) (v := .int (nI 0)) (ty := .int) (C := RGR) (T := TGR) (N := 6) hx hb hz in_GR tyGR tokGR nokGR hown hK hP hD hS 0 rfl rfl 5 (by decide) (hz _ wd_90) (fun _ h9 => h9) rfl (by decide +kernel) rfl rfl (Nat.le_of_ble_eq_true rfl) dGR_empty_29 (fun H locs hP hD hS => ?_)
  have hP : va_P (dC, dI) vwCl [zob g 1 [.ref al, .int (nI 1), .int (nI 0), .int (nI 0), .int (nI 0), .int (nI 0)], zob al 2 [.ref ed, .int (nI 0), .int x1], zrf ed cE cap x2] H := hP
  have hD : va_D A [zob g 1 [.ref al, .int (nI 1), .int (nI 0), .int (nI 0), .int (nI 0), .int (nI 0)], zob al 2 [.ref ed, .int (nI 0), .int x1], zrf ed cE cap x2] := hD
  subst hQ
  exact zw_vret (D := (dC, dI)) (cl := vwCl) (A := A) (x1, x2) hx hb hr hlocks (trivial) (hP.sub [0, 1, 2] rfl) (hK.sub [] rfl) (hD.sub [0, 1, 2] (by decide) rfl) hS dGR_empty_32

set_option maxHeartbeats 4000000 in
set_option maxRecDepth 100000 in
theorem f_GR_cellCount0 (l : Launch) (dC : Nat → ClassId) (dI : Nat → Nat → Nat) (g : Nat) (al : Nat) (gr : Nat) (gs : Nat) (bg : Nat) (re : Nat) (ce : Nat) (ed : Nat) (mo : Int32) (n : Nat) : zp_M l yGR_cellCount wGR_cellCount ({ frames := 1, cells := 0, slots := 0, locals := 20 }) [.ref g] (dC, dI) vwCl [zob g 1 [.ref al, .int (nI gr), .int (nI gs), .int (nI bg), .int (nI re), .int (nI ce)], zob al 2 [.ref ed, .int (nI n), .int mo]] [] (fun _ => True) (fun r => r = nI n) := by
  refine zp_head (cc := cGR_cellCount) (maxL := 1) (ret := (some .int)) (by decide +kernel) rfl (Nat.le_of_ble_eq_true rfl) ?_
  intro p e s m below meth c ls F hP hK hX hl
  obtain ⟨hx, hb, hml, hr, hlocks, hown, hts⟩ := F
  have hown : s.vm.findClass "SpannedCells$Grid" = some m.cls := hown
  have hz : ∀ w9 ∈ zT, w9.before [.ref g].toArray s = true := fun w9 h => hts w9 (List.mem_cons_of_mem _ h)
  have hl : lv_has ls 1 [(0, .ref g)] := hl
  refine z_q (fun Q hQ => ?_)
  refine lv_aload_n hx hb dGR_cellCount_0 rfl (lv_at hl 0 rfl) ?_
  refine va_get (D := (dC, dI)) (ci := 1) (v := .ref al) (C := RGR) (T := TGR) (N := 6) hx hb hz in_GR hown hK hP 0 rfl rfl 0 (by decide) (hz _ wd_85) (fun _ h9 => h9) rfl dGR_cellCount_1 ?_
  refine vp_callSi (W.runV (As := []) (rest := []) ⟨hx, hb, hml, hown, hz⟩ (f_AL_size l dC dI al ed mo n ) (cwV 0 hz (z_gV wd_192 wd_193 wd_194 wd_33 wd_195) rfl rfl rfl (by decide +kernel) ⟨Nat.le_of_ble_eq_true rfl, Nat.le_of_ble_eq_true rfl⟩) (zr_preV hK (hP.sub [1] rfl) (va_recv (q0 := 1) hK hP (q := (RAL, TAL, 3)) rfl rfl) [] rfl z_true (fun _ _ _ => trivial)) rfl rfl hl.1 rfl (lv_room (Nat.le_of_ble_eq_true rfl)) dGR_cellCount_4 ⟨Nat.le_of_ble_eq_true rfl, Nat.le_of_ble_eq_true rfl⟩) (fun r1 h_r1 => ?_)
  have h_r1 : r1 = nI n := h_r1
  subst h_r1
  subst hQ
  exact zp_iret hx hb hr hlocks (rfl) dGR_cellCount_7

set_option maxHeartbeats 4000000 in
set_option maxRecDepth 100000 in
theorem f_SC_clear (l : Launch) (dC : Nat → ClassId) (dI : Nat → Nat → Nat) (h0 : Nat) (wd : Nat) (hh : Nat) (sp : Nat) (gp : Nat) (fx : Nat) (g : Nat) (al : Nat) (gr : Nat) (gs : Nat) (bg : Nat) (re : Nat) (ce : Nat) (ed : Nat) (cE : ClassId) (cap : Nat) (a : Nat → Option Nat) (mo : Int32) (n : Nat) (hn : n ≤ cap) (hc : cap < 2147483648) : zw_Mi (S := (Int32) × (Nat → Option Nat)) l ySC_clear wSC_clear ({ frames := 2, cells := 0, slots := 0, locals := 43 }) [.ref h0] (dC, dI) vwCl [zob h0 0 [.ref g, .ref wd, .ref hh, .int (nI sp), .int (nI gp), .int (nI fx)], zob g 1 [.ref al, .int (nI gr), .int (nI gs), .int (nI bg), .int (nI re), .int (nI ce)], zob al 2 [.ref ed, .int (nI n), .int mo], zrf ed cE cap a] [(cE, .object "java/lang/Object")] (fun _ _ => True) (fun r u => match u with | (mo2, a2) => r = nI n) (fun u => match u with | (mo2, a2) => [zob h0 0 [.ref g, .ref wd, .ref hh, .int (nI sp), .int (nI gp), .int (nI fx)], zob g 1 [.ref al, .int (nI 1), .int (nI 0), .int (nI 0), .int (nI 0), .int (nI 0)], zob al 2 [.ref ed, .int (nI 0), .int mo2], zrf ed cE cap a2]) (fun u => match u with | (mo2, a2) => []) 0 0 := by
  refine zw_headi (cc := cSC_clear) (maxL := 2) (ret := (some .int)) (by decide +kernel) rfl (Nat.le_of_ble_eq_true rfl) ?_
  intro p e s m below meth c ls A F hA hP hK hD hS hX hl
  obtain ⟨hx, hb, hml, hr, hlocks, hown, hts⟩ := F
  have hown : s.vm.findClass "SpannedCells" = some m.cls := hown
  have hz : ∀ w9 ∈ zT, w9.before [.ref h0].toArray s = true := fun w9 h => hts w9 (List.mem_cons_of_mem _ h)
  have hl : lv_has ls 2 [(0, .ref h0)] := hl
  refine z_q (fun Q hQ => ?_)
  refine lv_aload_n hx hb dSC_clear_0 rfl (lv_at hl 0 rfl) ?_
  refine va_get (D := (dC, dI)) (ci := 0) (v := .ref g) (C := RSC) (T := TSC) (N := 6) hx hb hz in_SC hown hK hP 0 rfl rfl 0 (by decide) (hz _ wd_150) (fun _ h9 => h9) rfl dSC_clear_1 ?_
  refine vp_callSi (W.runV (As := []) (rest := []) ⟨hx, hb, hml, hown, hz⟩ (f_GR_cellCount0 l dC dI g al gr gs bg re ce ed mo n ) (cwV 0 hz (z_gV wd_375 wd_376 wd_377 wd_30 wd_378) rfl rfl rfl (by decide +kernel) ⟨Nat.le_of_ble_eq_true rfl, Nat.le_of_ble_eq_true rfl⟩) (zr_preV hK (hP.sub [1, 2] rfl) (va_recv (q0 := 1) hK hP (q := (RGR, TGR, 6)) rfl rfl) [] rfl z_true (fun _ _ _ => trivial)) rfl rfl hl.1 rfl (lv_room (Nat.le_of_ble_eq_true rfl)) dSC_clear_4 ⟨Nat.le_of_ble_eq_true rfl, Nat.le_of_ble_eq_true rfl⟩) (fun r1 h_r1 => ?_)
  have h_r1 : r1 = nI n := h_r1
  subst h_r1
  refine lv_istore_n hx hb dSC_clear_7 rfl hl (Nat.le_of_ble_eq_true rfl) rfl (fun ls hl => ?_)
  have hl : lv_has ls 2 [(1, .int (nI n)), (0, .ref h0)] := hl
  refine lv_aload_n hx hb dSC_clear_8 rfl (lv_at hl 1 rfl) ?_
  refine va_get (D := (dC, dI)) (ci := 0) (v := .ref g) (C := RSC) (T := TSC) (N := 6) hx hb hz in_SC hown hK hP 0 rfl rfl 0 (by decide) (hz _ wd_150) (fun _ h9 => h9) rfl dSC_clear_9 ?_
  refine zw_callv (wr := [zob h0 0 [.ref g, .ref wd, .ref hh, .int (nI sp), .int (nI gp), .int (nI fx)]]) hK hP hD hS hA [1, 2, 3] [0] rfl rfl (by decide) (by decide) (va_runV (As := []) (rest := []) ⟨hx, hb, hml, hown, hz⟩ ((f_GR_empty l dC dI g al gr gs bg re ce ed cE cap a mo n (by omega) (by omega)) s.heap.size) (cwV 0 hz (z_gV wd_379 wd_380 wd_381 wd_30 wd_382) rfl rfl rfl (by decide +kernel) ⟨Nat.le_of_ble_eq_true rfl, Nat.le_of_ble_eq_true rfl⟩) (zw_preV (q0 := 1) (q := (RGR, TGR, 6)) hK hP hD rfl rfl [1, 2, 3] (by decide) rfl [0] rfl z_true (fun _ _ _ => trivial)) rfl rfl hl.1 rfl (lv_room (Nat.le_of_ble_eq_true rfl)) dSC_clear_12 ⟨Nat.le_of_ble_eq_true rfl, Nat.le_of_ble_eq_true rfl⟩) (fun u H locs h_r2 hP hD hK hS => ?_)
  obtain ⟨x1, x2⟩ := u
  have hP : va_P (dC, dI) vwCl [zob h0 0 [.ref g, .ref wd, .ref hh, .int (nI sp), .int (nI gp), .int (nI fx)], zob g 1 [.ref al, .int (nI 1), .int (nI 0), .int (nI 0), .int (nI 0), .int (nI 0)], zob al 2 [.ref ed, .int (nI 0), .int x1], zrf ed cE cap x2] H := hP.sub [0, 1, 2, 3] rfl
  have hD : va_D A [zob h0 0 [.ref g, .ref wd, .ref hh, .int (nI sp), .int (nI gp), .int (nI fx)], zob g 1 [.ref al, .int (nI 1), .int (nI 0), .int (nI 0), .int (nI 0), .int (nI 0)], zob al 2 [.ref ed, .int (nI 0), .int x1], zrf ed cE cap x2] := hD.sub [0, 1, 2, 3] (by decide) rfl
  have hK : va_K (dC, dI) vwCl [(cE, .object "java/lang/Object")] s := hK
  refine lv_iload_n hx hb dSC_clear_15 rfl (lv_at hl 0 rfl) ?_
  subst hQ
  exact zw_iret (D := (dC, dI)) (cl := vwCl) (A := A) (x1, x2) hx hb hr hlocks (rfl) (hP.sub [0, 1, 2, 3] rfl) (hK.sub [] rfl) (hD.sub [0, 1, 2, 3] (by decide) rfl) hS dSC_clear_16
