set_option maxHeartbeats 4000000 in
set_option maxRecDepth 100000 in
theorem x_MD_greater (l : Launch) (dC : Nat → ClassId) (dI : Nat → Nat → Nat) (x : Nat) (y : Nat) (hb : x < 2147483648 ∧ y < 2147483648) : zp_M l yMD_greater wMD_greater ({ frames := 0, cells := 0, slots := 0, locals := 0 }) [.int (nI x), .int (nI y)] (dC, dI) vwCl [] [] (fun _ => True) (fun r => r = nI (if x < y then y else x)) := by
  refine zp_head (cc := cMD_greater) (maxL := 2) (ret := (some .int)) (by decide +kernel) rfl (Nat.le_of_ble_eq_true rfl) ?_
  intro p e s m below meth c ls F hP hK hX hl
  obtain ⟨hx, hb, hml, hr, hlocks, hown, hts⟩ := F
  have hown : s.vm.findClass "SpannedCellsModel" = some m.cls := hown
  have hz : ∀ w9 ∈ zT, w9.before [.int (nI x), .int (nI y)].toArray s = true := fun w9 h => hts w9 (List.mem_cons_of_mem _ h)
  have hl : lv_has ls 2 [(0, .int (nI x)), (1, .int (nI y))] := hl
  refine z_q (fun Q hQ => ?_)
  refine lv_iload_n hx hb dMD_greater_0 rfl (lv_at hl 0 rfl) ?_
  refine lv_iload_n hx hb dMD_greater_1 rfl (lv_at hl 1 rfl) ?_
  have t1 := nI_toInt (n := x) (by omega)
  have t2 := nI_toInt (n := y) (by omega)
  refine lv_icmp_le (tgt := 9) hx hb dMD_greater_2 rfl (fun h_c => ?_) (fun h_c => ?_)
  · have h_c := z_le h_c
    refine lv_iload_n hx hb dMD_greater_9 rfl (lv_at hl 1 rfl) ?_
    subst hQ
    exact zp_iret hx hb hr hlocks (congrArg nI (by split <;> omega)) dMD_greater_10
  · have h_c := z_nle h_c
    refine lv_iload_n hx hb dMD_greater_5 rfl (lv_at hl 0 rfl) ?_
    refine lv_goto (tgt := 10) hx hb dMD_greater_6 rfl ?_
    subst hQ
    exact zp_iret hx hb hr hlocks (congrArg nI (by split <;> omega)) dMD_greater_10

set_option maxHeartbeats 4000000 in
set_option maxRecDepth 100000 in
theorem x_MD_greater0 (l : Launch) (dC : Nat → ClassId) (dI : Nat → Nat → Nat) (x : Int32) : zp_M l yMD_greater wMD_greater ({ frames := 0, cells := 0, slots := 0, locals := 0 }) [.int (nI 0), .int x] (dC, dI) vwCl [] [] (fun _ => True) (fun r => (x.toInt ≤ 0 ∧ r = nI 0) ∨ (0 < x.toInt ∧ r = x)) := by
  refine zp_head (cc := cMD_greater) (maxL := 2) (ret := (some .int)) (by decide +kernel) rfl (Nat.le_of_ble_eq_true rfl) ?_
  intro p e s m below meth c ls F hP hK hX hl
  obtain ⟨hx, hb, hml, hr, hlocks, hown, hts⟩ := F
  have hown : s.vm.findClass "SpannedCellsModel" = some m.cls := hown
  have hz : ∀ w9 ∈ zT, w9.before [.int (nI 0), .int x].toArray s = true := fun w9 h => hts w9 (List.mem_cons_of_mem _ h)
  have hl : lv_has ls 2 [(0, .int (nI 0)), (1, .int x)] := hl
  refine z_q (fun Q hQ => ?_)
  refine lv_iload_n hx hb dMD_greater_0 rfl (lv_at hl 0 rfl) ?_
  refine lv_iload_n hx hb dMD_greater_1 rfl (lv_at hl 1 rfl) ?_
  have t1 := nI_toInt (n := 0) (by omega)
  refine lv_icmp_le (tgt := 9) hx hb dMD_greater_2 rfl (fun h_c => ?_) (fun h_c => ?_)
  · have h_c := z_le h_c
    refine lv_iload_n hx hb dMD_greater_9 rfl (lv_at hl 1 rfl) ?_
    subst hQ
    exact zp_iret hx hb hr hlocks (z_g0b h_c) dMD_greater_10
  · have h_c := z_nle h_c
    refine lv_iload_n hx hb dMD_greater_5 rfl (lv_at hl 0 rfl) ?_
    refine lv_goto (tgt := 10) hx hb dMD_greater_6 rfl ?_
    subst hQ
    exact zp_iret hx hb hr hlocks (Or.inl ⟨by omega, rfl⟩) dMD_greater_10

set_option maxHeartbeats 4000000 in
set_option maxRecDepth 100000 in
theorem x_MD_sumOf (l : Launch) (dC : Nat → ClassId) (dI : Nat → Nat → Nat) (q : Nat) (kA : ClassId) (f : Nat → Nat) (i0 : Nat) (e0 : Nat) (hi0 : i0 ≤ e0) (he0 : e0 ≤ 12) : zp_M l yMD_sumOf wMD_sumOf ({ frames := 0, cells := 0, slots := 0, locals := 0 }) [.ref q, .int (nI i0), .int (nI e0)] (dC, dI) vwCl [zar q kA 12 (fun j => nI (f j))] [(kA, .int)] (fun _ => True) (fun r => r = nI (zRs f i0 e0)) := by
  refine zp_head (cc := cMD_sumOf) (maxL := 5) (ret := (some .int)) (by decide +kernel) rfl (Nat.le_of_ble_eq_true rfl) ?_
  intro p e s m below meth c ls F hP hK hX hl
  obtain ⟨hx, hb, hml, hr, hlocks, hown, hts⟩ := F
  have hown : s.vm.findClass "SpannedCellsModel" = some m.cls := hown
  have hz : ∀ w9 ∈ zT, w9.before [.ref q, .int (nI i0), .int (nI e0)].toArray s = true := fun w9 h => hts w9 (List.mem_cons_of_mem _ h)
  have hl : lv_has ls 5 [(0, .ref q), (1, .int (nI i0)), (2, .int (nI e0))] := hl
  refine z_q (fun Q hQ => ?_)
  refine lv_iconst (v := nI 0) hx hb dMD_sumOf_0 (by decide) ?_
  refine lv_topi (fun x1 e2 => ?_)
  have e2 : x1 = nI (zRs f i0 i0) := e2.trans (by rw [zRs_0 (Nat.le_refl _)])
  subst e2
  refine lv_istore_n hx hb dMD_sumOf_1 rfl hl (Nat.le_of_ble_eq_true rfl) rfl (fun ls hl => ?_)
  have hl : lv_has ls 5 [(3, .int (nI (zRs f i0 i0))), (0, .ref q), (1, .int (nI i0)), (2, .int (nI e0))] := hl
  refine lv_iload_n hx hb dMD_sumOf_2 rfl (lv_at hl 2 rfl) ?_
  refine lv_istore hx hb dMD_sumOf_3 hl (Nat.le_of_ble_eq_true rfl) rfl (fun ls hl => ?_)
  have hl : lv_has ls 5 [(4, .int (nI i0)), (3, .int (nI (zRs f i0 i0))), (0, .ref q), (1, .int (nI i0)), (2, .int (nI e0))] := hl
  refine zl_up (σ := Unit) e0 (fun i x9 ls => lv_has ls 5 [(4, .int (nI i)), (3, .int (nI (zRs f i0 i))), (2, .int (nI e0)), (1, .int (nI i0)), (0, .ref q)] ∧ (i0 ≤ i)) ?_ ?_ i0 (hi0) () ls ⟨lv_sub hl [0, 1, 4, 3, 2] rfl, Nat.le_refl _⟩
  · intro x9 ls hI
    obtain ⟨hl, hxI⟩ := hI
    have hl : lv_has ls 5 [(4, .int (nI e0)), (3, .int (nI (zRs f i0 e0))), (2, .int (nI e0)), (1, .int (nI i0)), (0, .ref q)] := hl
    refine lv_iload hx hb dMD_sumOf_5 (lv_at hl 0 rfl) ?_
    refine lv_iload_n hx hb dMD_sumOf_7 rfl (lv_at hl 2 rfl) ?_
    have t3 := nI_toInt (n := e0) (by omega)
    have t4 := nI_toInt (n := e0) (by omega)
    refine lv_icmp_ge (tgt := 24) hx hb dMD_sumOf_8 rfl (fun _ => ?_) (fun h => by have h := z_nle h; omega)
    refine lv_iload_n hx hb dMD_sumOf_24 rfl (lv_at hl 1 rfl) ?_
    subst hQ
    exact zp_iret hx hb hr hlocks (rfl) dMD_sumOf_25
  · intro i hi ih
    intro x9 ls hI
    obtain ⟨hl, hxI⟩ := hI
    have hl : lv_has ls 5 [(4, .int (nI i)), (3, .int (nI (zRs f i0 i))), (2, .int (nI e0)), (1, .int (nI i0)), (0, .ref q)] := hl
    refine lv_iload hx hb dMD_sumOf_5 (lv_at hl 0 rfl) ?_
    refine lv_iload_n hx hb dMD_sumOf_7 rfl (lv_at hl 2 rfl) ?_
    have t5 := nI_toInt (n := i) (by omega)
    have t6 := nI_toInt (n := e0) (by omega)
    refine lv_icmp_ge (tgt := 24) hx hb dMD_sumOf_8 rfl (fun h => by have h := z_le h; omega) (fun _ => ?_)
    refine lv_iload_n hx hb dMD_sumOf_11 rfl (lv_at hl 1 rfl) ?_
    refine lv_aload_n hx hb dMD_sumOf_12 rfl (lv_at hl 4 rfl) ?_
    refine lv_iload hx hb dMD_sumOf_13 (lv_at hl 0 rfl) ?_
    refine va_iald hx hb hK hP 0 0 rfl rfl (vp_in_nI (by omega) (by omega)) dMD_sumOf_15 ?_
    refine lv_topi (fun x7 e8 => ?_)
    have e8 : x7 = nI (f i) := e8.trans (by show nI (f (nI i).toNatClampNeg) = _; rw [nI_clamp (by omega)])
    subst e8
    refine lv_iadd hx hb dMD_sumOf_16 ?_
    refine lv_topi (fun x9 e10 => ?_)
    have e10 : x9 = nI (zRs f i0 (i + 1)) := e10.trans (by rw [zRs_s (by omega)]; exact nI_add _ _)
    subst e10
    refine lv_istore_n hx hb dMD_sumOf_17 rfl hl (Nat.le_of_ble_eq_true rfl) rfl (fun ls hl => ?_)
    have hl : lv_has ls 5 [(3, .int (nI (zRs f i0 (i + 1)))), (4, .int (nI i)), (2, .int (nI e0)), (1, .int (nI i0)), (0, .ref q)] := hl
    refine lv_iinc (k := 1) (v := nI (i + 1)) hx hb dMD_sumOf_18 hl rfl (by rw [show Int32.ofInt 1 = nI 1 from by decide]; exact nI_add _ _) (Nat.le_of_ble_eq_true rfl) rfl (fun ls hl => ?_)
    have hl : lv_has ls 5 [(4, .int (nI (i + 1))), (3, .int (nI (zRs f i0 (i + 1)))), (2, .int (nI e0)), (1, .int (nI i0)), (0, .ref q)] := hl
    refine lv_goto (tgt := 5) hx hb dMD_sumOf_21 rfl ?_
    exact ih () ls ⟨lv_sub hl [0, 1, 2, 3, 4] rfl, by omega⟩

set_option maxHeartbeats 4000000 in
set_option maxRecDepth 100000 in
theorem x_MD_weigh (l : Launch) (dC : Nat → ClassId) (dI : Nat → Nat → Nat) (h0 : Nat) (b0 : Nat) (b1 : Nat) (b2 : Nat) (b3 : Nat) (b4 : Nat) (b5 : Nat) (b6 : Nat) (b7 : Nat) (b8 : Nat) (b9 : Nat) (b10 : Nat) (b11 : Nat) (b12 : Nat) (b13 : Nat) (b14 : Nat) (b15 : Nat) (b16 : Nat) (b17 : Nat) (mg : Nat) (n : Nat) (rg : Nat) (rn : Nat) (ro : Nat) (sp : Nat) (gp : Nat) (fx : Nat) (kb17 : ClassId) (fw : Nat → Int32) (q : Nat) (kA : ClassId) (f : Nat → Nat) : zw_Mv (S := Unit) l yMD_weigh wMD_weigh ({ frames := 0, cells := 0, slots := 0, locals := 0 }) [.ref h0, .ref q] (dC, dI) vwCl [zob h0 6 [.int (nI mg), .ref b0, .ref b1, .int (nI n), .ref b2, .ref b3, .ref b4, .ref b5, .ref b6, .ref b7, .ref b8, .ref b9, .ref b10, .ref b11, .int (nI rg - nI 1), .int (nI rn), .int (nI ro), .int (nI sp), .int (nI gp), .int (nI fx), .ref b12, .ref b13, .ref b14, .ref b15, .ref b16, .ref b17], zar b17 kb17 12 fw, zar q kA 12 (fun j => nI (f j))] [(kb17, .int), (kA, .int)] (fun _ _ => True) (fun (_ : Unit) => True) (fun (_ : Unit) => [zob h0 6 [.int (nI mg), .ref b0, .ref b1, .int (nI n), .ref b2, .ref b3, .ref b4, .ref b5, .ref b6, .ref b7, .ref b8, .ref b9, .ref b10, .ref b11, .int (nI rg - nI 1), .int (nI rn), .int (nI ro), .int (nI sp), .int (nI gp), .int (nI fx), .ref b12, .ref b13, .ref b14, .ref b15, .ref b16, .ref b17], zar b17 kb17 12 (fun j => nI (f j)), zar q kA 12 (fun j => nI (f j))]) (fun (_ : Unit) => []) 0 0 := by
  refine zw_headv (cc := cMD_weigh) (maxL := 3) (ret := none) (by decide +kernel) rfl (Nat.le_of_ble_eq_true rfl) ?_
  intro p e s m below meth c ls A F hnm hA hP hK hD hS hX hl
  obtain ⟨hx, hb, hml, hr, hlocks, hown, hts⟩ := F
  have hown : s.vm.findClass "SpannedCellsModel" = some m.cls := hown
  have hz : ∀ w9 ∈ zT, w9.before [.ref h0, .ref q].toArray s = true := fun w9 h => hts w9 (List.mem_cons_of_mem _ h)
  have hl : lv_has ls 3 [(0, .ref h0), (1, .ref q)] := hl
  refine z_q (fun Q hQ => ?_)
  refine lv_iconst (v := nI 0) hx hb dMD_weigh_0 (by decide) ?_
  refine lv_istore_n hx hb dMD_weigh_1 rfl hl (Nat.le_of_ble_eq_true rfl) rfl (fun ls hl => ?_)
  have hl : lv_has ls 3 [(2, .int (nI 0)), (0, .ref h0), (1, .ref q)] := hl
  refine zl_upW (σ := (Nat → Int32)) 12 (fun i fo ls H locs => lv_has ls 3 [(2, .int (nI i)), (1, .ref q), (0, .ref h0)] ∧ (∀ q9, q9 < i → fo q9 = nI (f q9)) ∧ va_P (dC, dI) vwCl [zob h0 6 [.int (nI mg), .ref b0, .ref b1, .int (nI n), .ref b2, .ref b3, .ref b4, .ref b5, .ref b6, .ref b7, .ref b8, .ref b9, .ref b10, .ref b11, .int (nI rg - nI 1), .int (nI rn), .int (nI ro), .int (nI sp), .int (nI gp), .int (nI fx), .ref b12, .ref b13, .ref b14, .ref b15, .ref b16, .ref b17], zar b17 kb17 12 fo, zar q kA 12 (fun j => nI (f j))] H ∧ va_D A [zob h0 6 [.int (nI mg), .ref b0, .ref b1, .int (nI n), .ref b2, .ref b3, .ref b4, .ref b5, .ref b6, .ref b7, .ref b8, .ref b9, .ref b10, .ref b11, .int (nI rg - nI 1), .int (nI rn), .int (nI ro), .int (nI sp), .int (nI gp), .int (nI fx), .ref b12, .ref b13, .ref b14, .ref b15, .ref b16, .ref b17], zar b17 kb17 12 fo, zar q kA 12 (fun j => nI (f j))] ∧ va_S A s.heap H locs) ?_ ?_ 0 (by decide) fw ls s.heap [] ⟨lv_sub hl [0, 2, 1] rfl, fun q9 h9 => absurd h9 (Nat.not_lt_zero _), hP, hD, hS⟩
  · intro x9 ls H locs hI
    obtain ⟨fo, rfl⟩ : ∃ z, z = x9 := ⟨_, rfl⟩
    obtain ⟨hl, hxI, hP, hD, hS⟩ := hI
    have hl : lv_has ls 3 [(2, .int (nI 12)), (1, .ref q), (0, .ref h0)] := hl
    have hP : va_P (dC, dI) vwCl [zob h0 6 [.int (nI mg), .ref b0, .ref b1, .int (nI n), .ref b2, .ref b3, .ref b4, .ref b5, .ref b6, .ref b7, .ref b8, .ref b9, .ref b10, .ref b11, .int (nI rg - nI 1), .int (nI rn), .int (nI ro), .int (nI sp), .int (nI gp), .int (nI fx), .ref b12, .ref b13, .ref b14, .ref b15, .ref b16, .ref b17], zar b17 kb17 12 fo, zar q kA 12 (fun j => nI (f j))] H := hP
    have hD : va_D A [zob h0 6 [.int (nI mg), .ref b0, .ref b1, .int (nI n), .ref b2, .ref b3, .ref b4, .ref b5, .ref b6, .ref b7, .ref b8, .ref b9, .ref b10, .ref b11, .int (nI rg - nI 1), .int (nI rn), .int (nI ro), .int (nI sp), .int (nI gp), .int (nI fx), .ref b12, .ref b13, .ref b14, .ref b15, .ref b16, .ref b17], zar b17 kb17 12 fo, zar q kA 12 (fun j => nI (f j))] := hD
    refine lv_iload_n hx hb dMD_weigh_2 rfl (lv_at hl 0 rfl) ?_
    refine lv_bipush (v := nI 12) hx hb dMD_weigh_3 (by decide) ?_
    refine lv_icmp_ge (tgt := 23) hx hb dMD_weigh_5 rfl (fun _ => ?_) (fun h => absurd (by decide) h)
    have hP : va_P (dC, dI) vwCl [zob h0 6 [.int (nI mg), .ref b0, .ref b1, .int (nI n), .ref b2, .ref b3, .ref b4, .ref b5, .ref b6, .ref b7, .ref b8, .ref b9, .ref b10, .ref b11, .int (nI rg - nI 1), .int (nI rn), .int (nI ro), .int (nI sp), .int (nI gp), .int (nI fx), .ref b12, .ref b13, .ref b14, .ref b15, .ref b16, .ref b17], zar b17 kb17 12 (fun j => nI (f j)), zar q kA 12 (fun j => nI (f j))] H := zP_arr 1 hP rfl (hxI)
    have hD : va_D A [zob h0 6 [.int (nI mg), .ref b0, .ref b1, .int (nI n), .ref b2, .ref b3, .ref b4, .ref b5, .ref b6, .ref b7, .ref b8, .ref b9, .ref b10, .ref b11, .int (nI rg - nI 1), .int (nI rn), .int (nI ro), .int (nI sp), .int (nI gp), .int (nI fx), .ref b12, .ref b13, .ref b14, .ref b15, .ref b16, .ref b17], zar b17 kb17 12 (fun j => nI (f j)), zar q kA 12 (fun j => nI (f j))] := va_D.set (p := 1) hD rfl
    subst hQ
    exact zw_vret (D := (dC, dI)) (cl := vwCl) (A := A) () hx hb hr hlocks (trivial) (hP.sub [0, 1, 2] rfl) (hK.sub [] rfl) (hD.sub [0, 1, 2] (by decide) rfl) hS dMD_weigh_23
  · intro i hi ih
    intro x9 ls H locs hI
    obtain ⟨fo, rfl⟩ : ∃ z, z = x9 := ⟨_, rfl⟩
    obtain ⟨hl, hxI, hP, hD, hS⟩ := hI
    have hl : lv_has ls 3 [(2, .int (nI i)), (1, .ref q), (0, .ref h0)] := hl
    have hP : va_P (dC, dI) vwCl [zob h0 6 [.int (nI mg), .ref b0, .ref b1, .int (nI n), .ref b2, .ref b3, .ref b4, .ref b5, .ref b6, .ref b7, .ref b8, .ref b9, .ref b10, .ref b11, .int (nI rg - nI 1), .int (nI rn), .int (nI ro), .int (nI sp), .int (nI gp), .int (nI fx), .ref b12, .ref b13, .ref b14, .ref b15, .ref b16, .ref b17], zar b17 kb17 12 fo, zar q kA 12 (fun j => nI (f j))] H := hP
    have hD : va_D A [zob h0 6 [.int (nI mg), .ref b0, .ref b1, .int (nI n), .ref b2, .ref b3, .ref b4, .ref b5, .ref b6, .ref b7, .ref b8, .ref b9, .ref b10, .ref b11, .int (nI rg - nI 1), .int (nI rn), .int (nI ro), .int (nI sp), .int (nI gp), .int (nI fx), .ref b12, .ref b13, .ref b14, .ref b15, .ref b16, .ref b17], zar b17 kb17 12 fo, zar q kA 12 (fun j => nI (f j))] := hD
    refine lv_iload_n hx hb dMD_weigh_2 rfl (lv_at hl 0 rfl) ?_
    refine lv_bipush (v := nI 12) hx hb dMD_weigh_3 (by decide) ?_
    have t1 := nI_toInt (n := i) (by omega)
    have t2 := nI_toInt (n := 12) (by omega)
    refine lv_icmp_ge (tgt := 23) hx hb dMD_weigh_5 rfl (fun h => by have h := z_le h; omega) (fun _ => ?_)
    refine lv_aload_n hx hb dMD_weigh_8 rfl (lv_at hl 2 rfl) ?_
    refine va_get (D := (dC, dI)) (ci := 6) (v := .ref b17) (C := RMD) (T := TMD) (N := 26) hx hb hz in_MD hown hK hP 0 rfl rfl 25 (by decide) (hz _ wd_609) (fun _ h9 => h9) rfl dMD_weigh_9 ?_
    refine lv_iload_n hx hb dMD_weigh_12 rfl (lv_at hl 0 rfl) ?_
    refine lv_aload_n hx hb dMD_weigh_13 rfl (lv_at hl 1 rfl) ?_
    refine lv_iload_n hx hb dMD_weigh_14 rfl (lv_at hl 0 rfl) ?_
    refine va_iald hx hb hK hP 2 1 rfl rfl (vp_in_nI (by omega) (by omega)) dMD_weigh_15 ?_
    refine lv_topi (fun x3 e4 => ?_)
    have e4 : x3 = nI (f i) := e4.trans (by show nI (f (nI i).toNatClampNeg) = _; rw [nI_clamp (by omega)])
    subst e4
    refine va_iast hx hb hK hP hD hS 1 0 rfl rfl (vp_in_nI (by omega) (by omega)) dMD_weigh_16 (fun H locs hP hD hS => ?_)
    have hP : va_P (dC, dI) vwCl [zob h0 6 [.int (nI mg), .ref b0, .ref b1, .int (nI n), .ref b2, .ref b3, .ref b4, .ref b5, .ref b6, .ref b7, .ref b8, .ref b9, .ref b10, .ref b11, .int (nI rg - nI 1), .int (nI rn), .int (nI ro), .int (nI sp), .int (nI gp), .int (nI fx), .ref b12, .ref b13, .ref b14, .ref b15, .ref b16, .ref b17], zar b17 kb17 12 (upd fo (nI i).toNatClampNeg (nI (f i))), zar q kA 12 (fun j => nI (f j))] H := hP
    have hD : va_D A [zob h0 6 [.int (nI mg), .ref b0, .ref b1, .int (nI n), .ref b2, .ref b3, .ref b4, .ref b5, .ref b6, .ref b7, .ref b8, .ref b9, .ref b10, .ref b11, .int (nI rg - nI 1), .int (nI rn), .int (nI ro), .int (nI sp), .int (nI gp), .int (nI fx), .ref b12, .ref b13, .ref b14, .ref b15, .ref b16, .ref b17], zar b17 kb17 12 (upd fo (nI i).toNatClampNeg (nI (f i))), zar q kA 12 (fun j => nI (f j))] := hD
    refine lv_iinc (k := 0) (v := nI (i + 1)) hx hb dMD_weigh_17 hl rfl (by rw [show Int32.ofInt 1 = nI 1 from by decide]; exact nI_add _ _) (Nat.le_of_ble_eq_true rfl) rfl (fun ls hl => ?_)
    have hl : lv_has ls 3 [(2, .int (nI (i + 1))), (1, .ref q), (0, .ref h0)] := hl
    refine lv_goto (tgt := 2) hx hb dMD_weigh_20 rfl ?_
    exact ih (upd fo (nI i).toNatClampNeg (nI (f i))) ls H locs ⟨lv_sub hl [0, 1, 2] rfl, z_copy (by omega) hxI, hP, hD, hS⟩
