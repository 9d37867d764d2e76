set_option maxHeartbeats 4000000 in
set_option maxRecDepth 100000 in
theorem x_LI_raiseTo (l : Launch) (dC : Nat → ClassId) (dI : Nat → Nat → Nat) (T : va_W) (a : Nat) (qa : Nat) (ka : ClassId) (f : Nat → Nat) (b : Nat) (qb : Nat) (kb : ClassId) (fb : Nat → Nat) (i0 : Nat) (e0 : Nat) (hi0 : i0 ≤ e0) (he0 : e0 ≤ 12) (hf : ∀ j, f j ≤ 20000) (hfb : ∀ j, fb j ≤ 20000) : zw_Mv (S := (Nat → Nat)) l yLI_raiseTo wLI_raiseTo ({ frames := 1, cells := 0, slots := 0, locals := 15 }) [.ref a, .ref b, .int (nI i0), .int (nI e0)] (dC, dI) vwCl ([zob a 4 [.ref qa], zar qa ka 12 (fun j => nI (f j)), zob b 4 [.ref qb], zar qb kb 12 (fun j => nI (fb j))] ++ T) [(ka, .int), (kb, .int)] (fun _ _ => True) (fun (f2 : Nat → Nat) => f2 = zRz f fb i0 e0) (fun (f2 : Nat → Nat) => ([zob a 4 [.ref qa], zar qa ka 12 (fun j => nI (f2 j)), zob b 4 [.ref qb], zar qb kb 12 (fun j => nI (fb j))] ++ T)) (fun (f2 : Nat → Nat) => []) 0 0 := by
  refine zw_headv (cc := cLI_raiseTo) (maxL := 5) (ret := none) (by decide +kernel) rfl (Nat.le_of_ble_eq_true rfl) ?_
  intro p e s m below meth c ls A F hnm hA hP hK hD hS hX hl
  obtain ⟨hx, hb, hml, hr, hlocks, hown, hts⟩ := F
  have hown : s.vm.findClass "SpannedCells$Lines" = some m.cls := hown
  have hz : ∀ w9 ∈ zT, w9.before [.ref a, .ref b, .int (nI i0), .int (nI e0)].toArray s = true := fun w9 h => hts w9 (List.mem_cons_of_mem _ h)
  have hl : lv_has ls 5 [(0, .ref a), (1, .ref b), (2, .int (nI i0)), (3, .int (nI e0))] := hl
  refine z_q (fun Q hQ => ?_)
  refine lv_iload_n hx hb dLI_raiseTo_0 rfl (lv_at hl 2 rfl) ?_
  refine lv_istore hx hb dLI_raiseTo_1 hl (Nat.le_of_ble_eq_true rfl) rfl (fun ls hl => ?_)
  have hl : lv_has ls 5 [(4, .int (nI i0)), (0, .ref a), (1, .ref b), (2, .int (nI i0)), (3, .int (nI e0))] := hl
  rw [← zRz_0 (f := f) (g := fb) (i0 := i0)] at hP hD
  refine zl_upW (σ := Unit) e0 (fun i x9 ls H locs => lv_has ls 5 [(4, .int (nI i)), (3, .int (nI e0)), (2, .int (nI i0)), (1, .ref b), (0, .ref a)] ∧ (i0 ≤ i) ∧ va_P (dC, dI) vwCl ([zob a 4 [.ref qa], zar qa ka 12 (fun j => nI (zRz f fb i0 i j)), zob b 4 [.ref qb], zar qb kb 12 (fun j => nI (fb j))] ++ T) H ∧ va_D A ([zob a 4 [.ref qa], zar qa ka 12 (fun j => nI (zRz f fb i0 i j)), zob b 4 [.ref qb], zar qb kb 12 (fun j => nI (fb j))] ++ T) ∧ va_S A s.heap H locs) ?_ ?_ i0 (hi0) () ls s.heap [] ⟨lv_sub hl [0, 4, 3, 2, 1] rfl, Nat.le_refl _, hP, hD, hS⟩
  · intro x9 ls H locs hI
    obtain ⟨hl, hxI, hP, hD, hS⟩ := hI
    have hl : lv_has ls 5 [(4, .int (nI e0)), (3, .int (nI e0)), (2, .int (nI i0)), (1, .ref b), (0, .ref a)] := hl
    have hP : va_P (dC, dI) vwCl ([zob a 4 [.ref qa], zar qa ka 12 (fun j => nI (zRz f fb i0 e0 j)), zob b 4 [.ref qb], zar qb kb 12 (fun j => nI (fb j))] ++ T) H := hP
    have hD : va_D A ([zob a 4 [.ref qa], zar qa ka 12 (fun j => nI (zRz f fb i0 e0 j)), zob b 4 [.ref qb], zar qb kb 12 (fun j => nI (fb j))] ++ T) := hD
    refine lv_iload hx hb dLI_raiseTo_3 (lv_at hl 0 rfl) ?_
    refine lv_iload_n hx hb dLI_raiseTo_5 rfl (lv_at hl 1 rfl) ?_
    have t1 := nI_toInt (n := e0) (by omega)
    have t2 := nI_toInt (n := e0) (by omega)
    refine lv_icmp_ge (tgt := 39) hx hb dLI_raiseTo_6 rfl (fun _ => ?_) (fun h => by have h := z_nle h; omega)
    subst hQ
    exact zw_vret (D := (dC, dI)) (cl := vwCl) (A := A) (zRz f fb i0 e0) hx hb hr hlocks (rfl) (zt_sub hP [0, 1, 2, 3] rfl) (hK.sub [] rfl) (zt_subD hD [0, 1, 2, 3] (by decide) rfl) hS dLI_raiseTo_39
  · intro i hi ih
    intro x9 ls H locs hI
    obtain ⟨hl, hxI, hP, hD, hS⟩ := hI
    have hl : lv_has ls 5 [(4, .int (nI i)), (3, .int (nI e0)), (2, .int (nI i0)), (1, .ref b), (0, .ref a)] := hl
    have hP : va_P (dC, dI) vwCl ([zob a 4 [.ref qa], zar qa ka 12 (fun j => nI (zRz f fb i0 i j)), zob b 4 [.ref qb], zar qb kb 12 (fun j => nI (fb j))] ++ T) H := hP
    have hD : va_D A ([zob a 4 [.ref qa], zar qa ka 12 (fun j => nI (zRz f fb i0 i j)), zob b 4 [.ref qb], zar qb kb 12 (fun j => nI (fb j))] ++ T) := hD
    refine lv_iload hx hb dLI_raiseTo_3 (lv_at hl 0 rfl) ?_
    refine lv_iload_n hx hb dLI_raiseTo_5 rfl (lv_at hl 1 rfl) ?_
    have t3 := nI_toInt (n := i) (by omega)
    have t4 := nI_toInt (n := e0) (by omega)
    refine lv_icmp_ge (tgt := 39) hx hb dLI_raiseTo_6 rfl (fun h => by have h := z_le h; omega) (fun _ => ?_)
    refine lv_aload_n hx hb dLI_raiseTo_9 rfl (lv_at hl 4 rfl) ?_
    refine va_get (D := (dC, dI)) (ci := 4) (v := .ref qa) (C := RLI) (T := TLI) (N := 1) hx hb hz in_LI hown hK hP 0 rfl rfl 0 (by decide) (hz _ wd_116) (fun _ h9 => h9) rfl dLI_raiseTo_10 ?_
    refine lv_iload hx hb dLI_raiseTo_13 (lv_at hl 0 rfl) ?_
    refine lv_aload_n hx hb dLI_raiseTo_15 rfl (lv_at hl 4 rfl) ?_
    refine va_get (D := (dC, dI)) (ci := 4) (v := .ref qa) (C := RLI) (T := TLI) (N := 1) hx hb hz in_LI hown hK hP 0 rfl rfl 0 (by decide) (hz _ wd_116) (fun _ h9 => h9) rfl dLI_raiseTo_16 ?_
    refine lv_iload hx hb dLI_raiseTo_19 (lv_at hl 0 rfl) ?_
    refine va_iald hx hb hK hP 1 0 rfl rfl (vp_in_nI (by omega) (by omega)) dLI_raiseTo_21 ?_
    refine lv_topi (fun x5 e6 => ?_)
    have e6 : x5 = nI (f i) := e6.trans (by show nI (zRz f fb i0 i (nI i).toNatClampNeg) = _; rw [nI_clamp (by omega), zRz_at])
    subst e6
    refine lv_aload_n hx hb dLI_raiseTo_22 rfl (lv_at hl 3 rfl) ?_
    refine va_get (D := (dC, dI)) (ci := 4) (v := .ref qb) (C := RLI) (T := TLI) (N := 1) hx hb hz in_LI hown hK hP 2 rfl rfl 0 (by decide) (hz _ wd_116) (fun _ h9 => h9) rfl dLI_raiseTo_23 ?_
    refine lv_iload hx hb dLI_raiseTo_26 (lv_at hl 0 rfl) ?_
    refine va_iald hx hb hK hP 3 1 rfl rfl (vp_in_nI (by omega) (by omega)) dLI_raiseTo_28 ?_
    refine lv_topi (fun x7 e8 => ?_)
    have e8 : x7 = nI (fb i) := e8.trans (by show nI (fb (nI i).toNatClampNeg) = _; rw [nI_clamp (by omega)])
    subst e8
    refine va_mmax hx hb (hml.trans hl.1.symm) hown (hz _ wd_491) (hz _ wd_190) (hz _ wd_38) (hz _ wd_191) (Nat.le_of_ble_eq_true rfl) (Nat.le_of_ble_eq_true rfl) (Nat.le_of_ble_eq_true rfl) (Nat.le_of_ble_eq_true rfl) dLI_raiseTo_29 ?_
    refine lv_topi (fun x9 e10 => ?_)
    have e10 : x9 = nI (if f i < fb i then fb i else f i) := e10.trans (by have h1 := hf i; have h2 := hfb i; exact z_max (by omega) (by omega))
    subst e10
    refine va_iast hx hb hK hP hD hS 1 0 rfl rfl (vp_in_nI (by omega) (by omega)) dLI_raiseTo_32 (fun H locs hP hD hS => ?_)
    have e_u := z_upd (f := zRz f fb i0 i) (k := i) (v := if f i < fb i then fb i else f i) (by omega)
    have hP : va_P (dC, dI) vwCl ([zob a 4 [.ref qa], zar qa ka 12 (fun j => nI (va_up (zRz f fb i0 i) i (if f i < fb i then fb i else f i) j)), zob b 4 [.ref qb], zar qb kb 12 (fun j => nI (fb j))] ++ T) H := by rw [← e_u]; exact hP
    have hD : va_D A ([zob a 4 [.ref qa], zar qa ka 12 (fun j => nI (va_up (zRz f fb i0 i) i (if f i < fb i then fb i else f i) j)), zob b 4 [.ref qb], zar qb kb 12 (fun j => nI (fb j))] ++ T) := by rw [← e_u]; exact hD
    refine lv_iinc (k := 0) (v := nI (i + 1)) hx hb dLI_raiseTo_33 hl rfl (by rw [show Int32.ofInt 1 = nI 1 from by decide]; exact nI_add _ _) (Nat.le_of_ble_eq_true rfl) rfl (fun ls hl => ?_)
    have hl : lv_has ls 5 [(4, .int (nI (i + 1))), (3, .int (nI e0)), (2, .int (nI i0)), (1, .ref b), (0, .ref a)] := hl
    refine lv_goto (tgt := 3) hx hb dLI_raiseTo_36 rfl ?_
    rw [zRz_s (by omega)] at hP hD
    exact ih () ls H locs ⟨lv_sub hl [0, 1, 2, 3, 4] rfl, by omega, hP, hD, hS⟩
