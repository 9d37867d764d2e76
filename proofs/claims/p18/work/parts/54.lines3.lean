set_option maxHeartbeats 4000000 in
set_option maxRecDepth 100000 in
theorem f_LI_copyOf (l : Launch) (dC : Nat → ClassId) (dI : Nat → Nat → Nat) (T : va_W) (a : Nat) (qa : Nat) (ka : ClassId) (f : Nat → Int32) (b : Nat) (qb : Nat) (kb : ClassId) (fb : Nat → Int32) : zw_Mv (S := (Nat → Int32)) l yLI_copyOf wLI_copyOf ({ frames := 1, cells := 0, slots := 0, locals := 18 }) [.ref a, .ref b] (dC, dI) vwCl ([zob a 4 [.ref qa], zar qa ka 12 f, zob b 4 [.ref qb], zar qb kb 12 fb] ++ T) [(ka, .int), (kb, .int)] (fun _ _ => True) (fun (f2 : Nat → Int32) => True) (fun (f2 : Nat → Int32) => ([zob a 4 [.ref qa], zar qa ka 12 f2, zob b 4 [.ref qb], zar qb kb 12 fb] ++ T)) (fun (f2 : Nat → Int32) => []) 0 0 := by
  refine zw_headv (cc := cLI_copyOf) (maxL := 2) (ret := none) (by decide +kernel) rfl (Nat.le_of_ble_eq_true rfl) ?_
  intro p e s m below meth c ls A F hnm hA hP hK hD hS hX hl
  obtain ⟨hx, hb, hml, hr, hlocks, hown, hts⟩ := F
  have hown : s.vm.findClass "SpannedCells$Lines" = some m.cls := hown
  have hz : ∀ w9 ∈ zT, w9.before [.ref a, .ref b].toArray s = true := fun w9 h => hts w9 (List.mem_cons_of_mem _ h)
  have hl : lv_has ls 2 [(0, .ref a), (1, .ref b)] := hl
  refine z_q (fun Q hQ => ?_)
  refine lv_aload_n hx hb dLI_copyOf_0 rfl (lv_at hl 1 rfl) ?_
  refine va_get (D := (dC, dI)) (ci := 4) (v := .ref qb) (C := RLI) (T := TLI) (N := 1) hx hb hz in_LI hown hK hP 2 rfl rfl 0 (by decide) (hz _ wd_116) (fun _ h9 => h9) rfl dLI_copyOf_1 ?_
  refine lv_iconst (v := nI 0) hx hb dLI_copyOf_4 (by decide) ?_
  refine lv_aload_n hx hb dLI_copyOf_5 rfl (lv_at hl 0 rfl) ?_
  refine va_get (D := (dC, dI)) (ci := 4) (v := .ref qa) (C := RLI) (T := TLI) (N := 1) hx hb hz in_LI hown hK hP 0 rfl rfl 0 (by decide) (hz _ wd_116) (fun _ h9 => h9) rfl dLI_copyOf_6 ?_
  refine lv_iconst (v := nI 0) hx hb dLI_copyOf_9 (by decide) ?_
  refine lv_bipush (v := nI 12) hx hb dLI_copyOf_10 (by decide) ?_
  refine va_copyi hx hb (hml.trans hl.1.symm) hown (hz _ wd_517) (hz _ wd_nat) (hz _ wd_347) (hz _ wd_44) hK hP hD hS 3 1 1 0 rfl rfl rfl rfl rfl (by decide) (by decide) (by decide) (by decide) (by decide) (fun _ _ => rfl) (Nat.le_of_ble_eq_true rfl) (Nat.le_of_ble_eq_true rfl) dLI_copyOf_12 (fun H locs hP hD hS => ?_)
  have hP : va_P (dC, dI) vwCl ([zob a 4 [.ref qa], zar qa ka 12 (va_cpy fb f (nI 0).toNatClampNeg (nI 0).toNatClampNeg (nI 12).toNatClampNeg), zob b 4 [.ref qb], zar qb kb 12 fb] ++ T) H := hP
  have hD : va_D A ([zob a 4 [.ref qa], zar qa ka 12 (va_cpy fb f (nI 0).toNatClampNeg (nI 0).toNatClampNeg (nI 12).toNatClampNeg), zob b 4 [.ref qb], zar qb kb 12 fb] ++ T) := hD
  obtain ⟨w1, e_w⟩ : ∃ f9 : Nat → Int32, f9 = va_cpy fb f (nI 0).toNatClampNeg (nI 0).toNatClampNeg (nI 12).toNatClampNeg := ⟨_, rfl⟩
  rw [← e_w] at hP hD
  have hP : va_P (dC, dI) vwCl ([zob a 4 [.ref qa], zar qa ka 12 w1, zob b 4 [.ref qb], zar qb kb 12 fb] ++ T) H := hP
  have hD : va_D A ([zob a 4 [.ref qa], zar qa ka 12 w1, zob b 4 [.ref qb], zar qb kb 12 fb] ++ T) := hD
  subst hQ
  exact zw_vret (D := (dC, dI)) (cl := vwCl) (A := A) w1 hx hb hr hlocks (trivial) (zt_sub hP [0, 1, 2, 3] rfl) (hK.sub [] rfl) (zt_subD hD [0, 1, 2, 3] (by decide) rfl) hS dLI_copyOf_15
