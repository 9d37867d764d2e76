set_option maxHeartbeats 4000000 in
set_option maxRecDepth 100000 in
theorem f_MD_greater (l : Launch) (dC : Nat → ClassId) (dI : Nat → Nat → Nat) (x : Int32) (y : Int32) : zp_M l yMD_greater wMD_greater ({ frames := 0, cells := 0, slots := 0, locals := 0 }) [.int x, .int y] (dC, dI) vwCl [] [] (fun _ => True) (fun r => True) := by
  refine zp_head (cc := cMD_greater) (maxL := 2) (ret := (some .int)) (by decide +kernel) rfl (Nat.le_of_ble_eq_true rfl) ?_
  intro p e s m below meth c ls F hP hK hX hl
  obtain ⟨hx, hb, hml, hr, hlocks, hown, hts⟩ := F
  have hown : s.vm.findClass "SpannedCellsModel" = some m.cls := hown
  have hz : ∀ w9 ∈ zT, w9.before [.int x, .int y].toArray s = true := fun w9 h => hts w9 (List.mem_cons_of_mem _ h)
  have hl : lv_has ls 2 [(0, .int x), (1, .int y)] := hl
  refine z_q (fun Q hQ => ?_)
  refine lv_iload_n hx hb dMD_greater_0 rfl (lv_at hl 0 rfl) ?_
  refine lv_iload_n hx hb dMD_greater_1 rfl (lv_at hl 1 rfl) ?_
  refine lv_icmp_le (tgt := 9) hx hb dMD_greater_2 rfl (fun h1 => ?_) (fun h1 => ?_)
  · refine lv_iload_n hx hb dMD_greater_9 rfl (lv_at hl 1 rfl) ?_
    subst hQ
    exact zp_iret hx hb hr hlocks (trivial) dMD_greater_10
  · refine lv_iload_n hx hb dMD_greater_5 rfl (lv_at hl 0 rfl) ?_
    refine lv_goto (tgt := 10) hx hb dMD_greater_6 rfl ?_
    subst hQ
    exact zp_iret hx hb hr hlocks (trivial) dMD_greater_10

set_option maxHeartbeats 4000000 in
set_option maxRecDepth 100000 in
theorem f_MD_sumOf (l : Launch) (dC : Nat → ClassId) (dI : Nat → Nat → Nat) (q : Nat) (kA : ClassId) (f : Nat → Int32) (i0 : Nat) (e0 : Nat) (hi0 : i0 ≤ e0) (he0 : e0 ≤ 12) : zp_M l yMD_sumOf wMD_sumOf ({ frames := 0, cells := 0, slots := 0, locals := 0 }) [.ref q, .int (nI i0), .int (nI e0)] (dC, dI) vwCl [zar q kA 12 f] [(kA, .int)] (fun _ => True) (fun r => True) := by
  refine zp_head (cc := cMD_sumOf) (maxL := 5) (ret := (some .int)) (by decide +kernel) rfl (Nat.le_of_ble_eq_true rfl) ?_
  intro p e s m below meth c ls F hP hK hX hl
  obtain ⟨hx, hb, hml, hr, hlocks, hown, hts⟩ := F
  have hown : s.vm.findClass "SpannedCellsModel" = some m.cls := hown
  have hz : ∀ w9 ∈ zT, w9.before [.ref q, .int (nI i0), .int (nI e0)].toArray s = true := fun w9 h => hts w9 (List.mem_cons_of_mem _ h)
  have hl : lv_has ls 5 [(0, .ref q), (1, .int (nI i0)), (2, .int (nI e0))] := hl
  refine z_q (fun Q hQ => ?_)
  refine lv_iconst (v := nI 0) hx hb dMD_sumOf_0 (by decide) ?_
  refine lv_istore_n hx hb dMD_sumOf_1 rfl hl (Nat.le_of_ble_eq_true rfl) rfl (fun ls hl => ?_)
  have hl : lv_has ls 5 [(3, .int (nI 0)), (0, .ref q), (1, .int (nI i0)), (2, .int (nI e0))] := hl
  refine lv_iload_n hx hb dMD_sumOf_2 rfl (lv_at hl 2 rfl) ?_
  refine lv_istore hx hb dMD_sumOf_3 hl (Nat.le_of_ble_eq_true rfl) rfl (fun ls hl => ?_)
  have hl : lv_has ls 5 [(4, .int (nI i0)), (3, .int (nI 0)), (0, .ref q), (1, .int (nI i0)), (2, .int (nI e0))] := hl
  refine zl_up (σ := (Int32)) e0 (fun i sm ls => lv_has ls 5 [(4, .int (nI i)), (3, .int sm), (2, .int (nI e0)), (1, .int (nI i0)), (0, .ref q)]) ?_ ?_ i0 (hi0) (nI 0) ls (lv_sub hl [0, 1, 4, 3, 2] rfl)
  · intro x9 ls hI
    obtain ⟨sm, rfl⟩ : ∃ z, z = x9 := ⟨_, rfl⟩
    have hl := hI
    have hl : lv_has ls 5 [(4, .int (nI e0)), (3, .int sm), (2, .int (nI e0)), (1, .int (nI i0)), (0, .ref q)] := hl
    refine lv_iload hx hb dMD_sumOf_5 (lv_at hl 0 rfl) ?_
    refine lv_iload_n hx hb dMD_sumOf_7 rfl (lv_at hl 2 rfl) ?_
    have t1 := nI_toInt (n := e0) (by omega)
    have t2 := nI_toInt (n := e0) (by omega)
    refine lv_icmp_ge (tgt := 24) hx hb dMD_sumOf_8 rfl (fun _ => ?_) (fun h => by have h := z_nle h; omega)
    refine lv_iload_n hx hb dMD_sumOf_24 rfl (lv_at hl 1 rfl) ?_
    subst hQ
    exact zp_iret hx hb hr hlocks (trivial) dMD_sumOf_25
  · intro i hi ih
    intro x9 ls hI
    obtain ⟨sm, rfl⟩ : ∃ z, z = x9 := ⟨_, rfl⟩
    have hl := hI
    have hl : lv_has ls 5 [(4, .int (nI i)), (3, .int sm), (2, .int (nI e0)), (1, .int (nI i0)), (0, .ref q)] := hl
    refine lv_iload hx hb dMD_sumOf_5 (lv_at hl 0 rfl) ?_
    refine lv_iload_n hx hb dMD_sumOf_7 rfl (lv_at hl 2 rfl) ?_
    have t3 := nI_toInt (n := i) (by omega)
    have t4 := nI_toInt (n := e0) (by omega)
    refine lv_icmp_ge (tgt := 24) hx hb dMD_sumOf_8 rfl (fun h => by have h := z_le h; omega) (fun _ => ?_)
    refine lv_iload_n hx hb dMD_sumOf_11 rfl (lv_at hl 1 rfl) ?_
    refine lv_aload_n hx hb dMD_sumOf_12 rfl (lv_at hl 4 rfl) ?_
    refine lv_iload hx hb dMD_sumOf_13 (lv_at hl 0 rfl) ?_
    refine va_iald hx hb hK hP 0 0 rfl rfl (vp_in_nI (by omega) (by omega)) dMD_sumOf_15 ?_
    refine lv_topi (fun y5 _ => ?_)
    refine lv_iadd hx hb dMD_sumOf_16 ?_
    refine lv_topi (fun y6 _ => ?_)
    refine lv_istore_n hx hb dMD_sumOf_17 rfl hl (Nat.le_of_ble_eq_true rfl) rfl (fun ls hl => ?_)
    have hl : lv_has ls 5 [(3, .int y6), (4, .int (nI i)), (2, .int (nI e0)), (1, .int (nI i0)), (0, .ref q)] := hl
    refine lv_iinc (k := 1) (v := nI (i + 1)) hx hb dMD_sumOf_18 hl rfl (by rw [show Int32.ofInt 1 = nI 1 from by decide]; exact nI_add _ _) (Nat.le_of_ble_eq_true rfl) rfl (fun ls hl => ?_)
    have hl : lv_has ls 5 [(4, .int (nI (i + 1))), (3, .int y6), (2, .int (nI e0)), (1, .int (nI i0)), (0, .ref q)] := hl
    refine lv_goto (tgt := 5) hx hb dMD_sumOf_21 rfl ?_
    exact ih y6 ls (lv_sub hl [0, 1, 2, 3, 4] rfl)

set_option maxHeartbeats 4000000 in
set_option maxRecDepth 100000 in
theorem f_MD_weigh (l : Launch) (dC : Nat → ClassId) (dI : Nat → Nat → Nat) (h0 : Nat) (b0 : Nat) (b1 : Nat) (b2 : Nat) (b3 : Nat) (b4 : Nat) (b5 : Nat) (b6 : Nat) (b7 : Nat) (b8 : Nat) (b9 : Nat) (b10 : Nat) (b11 : Nat) (b12 : Nat) (b13 : Nat) (b14 : Nat) (b15 : Nat) (b16 : Nat) (b17 : Nat) (mg : Nat) (n : Nat) (rg : Nat) (rn : Nat) (ro : Nat) (sp : Nat) (gp : Nat) (fx : Nat) (kb17 : ClassId) (fw : Nat → Int32) (q : Nat) (kA : ClassId) (f : Nat → Int32) : zw_Mv (S := (Nat → Int32)) l yMD_weigh wMD_weigh ({ frames := 0, cells := 0, slots := 0, locals := 0 }) [.ref h0, .ref q] (dC, dI) vwCl [zob h0 6 [.int (nI mg), .ref b0, .ref b1, .int (nI n), .ref b2, .ref b3, .ref b4, .ref b5, .ref b6, .ref b7, .ref b8, .ref b9, .ref b10, .ref b11, .int (nI rg - nI 1), .int (nI rn), .int (nI ro), .int (nI sp), .int (nI gp), .int (nI fx), .ref b12, .ref b13, .ref b14, .ref b15, .ref b16, .ref b17], zar b17 kb17 12 fw, zar q kA 12 f] [(kb17, .int), (kA, .int)] (fun _ _ => True) (fun (gw2 : Nat → Int32) => True) (fun (gw2 : Nat → Int32) => [zob h0 6 [.int (nI mg), .ref b0, .ref b1, .int (nI n), .ref b2, .ref b3, .ref b4, .ref b5, .ref b6, .ref b7, .ref b8, .ref b9, .ref b10, .ref b11, .int (nI rg - nI 1), .int (nI rn), .int (nI ro), .int (nI sp), .int (nI gp), .int (nI fx), .ref b12, .ref b13, .ref b14, .ref b15, .ref b16, .ref b17], zar b17 kb17 12 gw2, zar q kA 12 f]) (fun (gw2 : Nat → Int32) => []) 0 0 := by
  refine zw_headv (cc := cMD_weigh) (maxL := 3) (ret := none) (by decide +kernel) rfl (Nat.le_of_ble_eq_true rfl) ?_
  intro p e s m below meth c ls A F hnm hA hP hK hD hS hX hl
  obtain ⟨hx, hb, hml, hr, hlocks, hown, hts⟩ := F
  have hown : s.vm.findClass "SpannedCellsModel" = some m.cls := hown
  have hz : ∀ w9 ∈ zT, w9.before [.ref h0, .ref q].toArray s = true := fun w9 h => hts w9 (List.mem_cons_of_mem _ h)
  have hl : lv_has ls 3 [(0, .ref h0), (1, .ref q)] := hl
  refine z_q (fun Q hQ => ?_)
  refine lv_iconst (v := nI 0) hx hb dMD_weigh_0 (by decide) ?_
  refine lv_istore_n hx hb dMD_weigh_1 rfl hl (Nat.le_of_ble_eq_true rfl) rfl (fun ls hl => ?_)
  have hl : lv_has ls 3 [(2, .int (nI 0)), (0, .ref h0), (1, .ref q)] := hl
  refine zl_upW (σ := (Nat → Int32)) 12 (fun i gw ls H locs => lv_has ls 3 [(2, .int (nI i)), (1, .ref q), (0, .ref h0)] ∧ va_P (dC, dI) vwCl [zob h0 6 [.int (nI mg), .ref b0, .ref b1, .int (nI n), .ref b2, .ref b3, .ref b4, .ref b5, .ref b6, .ref b7, .ref b8, .ref b9, .ref b10, .ref b11, .int (nI rg - nI 1), .int (nI rn), .int (nI ro), .int (nI sp), .int (nI gp), .int (nI fx), .ref b12, .ref b13, .ref b14, .ref b15, .ref b16, .ref b17], zar b17 kb17 12 gw, zar q kA 12 f] H ∧ va_D A [zob h0 6 [.int (nI mg), .ref b0, .ref b1, .int (nI n), .ref b2, .ref b3, .ref b4, .ref b5, .ref b6, .ref b7, .ref b8, .ref b9, .ref b10, .ref b11, .int (nI rg - nI 1), .int (nI rn), .int (nI ro), .int (nI sp), .int (nI gp), .int (nI fx), .ref b12, .ref b13, .ref b14, .ref b15, .ref b16, .ref b17], zar b17 kb17 12 gw, zar q kA 12 f] ∧ va_S A s.heap H locs) ?_ ?_ 0 (by decide) fw ls s.heap [] ⟨lv_sub hl [0, 2, 1] rfl, hP, hD, hS⟩
  · intro x9 ls H locs hI
    obtain ⟨gw, rfl⟩ : ∃ z, z = x9 := ⟨_, rfl⟩
    obtain ⟨hl, hP, hD, hS⟩ := hI
    have hl : lv_has ls 3 [(2, .int (nI 12)), (1, .ref q), (0, .ref h0)] := hl
    have hP : va_P (dC, dI) vwCl [zob h0 6 [.int (nI mg), .ref b0, .ref b1, .int (nI n), .ref b2, .ref b3, .ref b4, .ref b5, .ref b6, .ref b7, .ref b8, .ref b9, .ref b10, .ref b11, .int (nI rg - nI 1), .int (nI rn), .int (nI ro), .int (nI sp), .int (nI gp), .int (nI fx), .ref b12, .ref b13, .ref b14, .ref b15, .ref b16, .ref b17], zar b17 kb17 12 gw, zar q kA 12 f] H := hP
    have hD : va_D A [zob h0 6 [.int (nI mg), .ref b0, .ref b1, .int (nI n), .ref b2, .ref b3, .ref b4, .ref b5, .ref b6, .ref b7, .ref b8, .ref b9, .ref b10, .ref b11, .int (nI rg - nI 1), .int (nI rn), .int (nI ro), .int (nI sp), .int (nI gp), .int (nI fx), .ref b12, .ref b13, .ref b14, .ref b15, .ref b16, .ref b17], zar b17 kb17 12 gw, zar q kA 12 f] := hD
    refine lv_iload_n hx hb dMD_weigh_2 rfl (lv_at hl 0 rfl) ?_
    refine lv_bipush (v := nI 12) hx hb dMD_weigh_3 (by decide) ?_
    refine lv_icmp_ge (tgt := 23) hx hb dMD_weigh_5 rfl (fun _ => ?_) (fun h => absurd (by decide) h)
    subst hQ
    exact zw_vret (D := (dC, dI)) (cl := vwCl) (A := A) gw hx hb hr hlocks (trivial) (hP.sub [0, 1, 2] rfl) (hK.sub [] rfl) (hD.sub [0, 1, 2] (by decide) rfl) hS dMD_weigh_23
  · intro i hi ih
    intro x9 ls H locs hI
    obtain ⟨gw, rfl⟩ : ∃ z, z = x9 := ⟨_, rfl⟩
    obtain ⟨hl, hP, hD, hS⟩ := hI
    have hl : lv_has ls 3 [(2, .int (nI i)), (1, .ref q), (0, .ref h0)] := hl
    have hP : va_P (dC, dI) vwCl [zob h0 6 [.int (nI mg), .ref b0, .ref b1, .int (nI n), .ref b2, .ref b3, .ref b4, .ref b5, .ref b6, .ref b7, .ref b8, .ref b9, .ref b10, .ref b11, .int (nI rg - nI 1), .int (nI rn), .int (nI ro), .int (nI sp), .int (nI gp), .int (nI fx), .ref b12, .ref b13, .ref b14, .ref b15, .ref b16, .ref b17], zar b17 kb17 12 gw, zar q kA 12 f] H := hP
    have hD : va_D A [zob h0 6 [.int (nI mg), .ref b0, .ref b1, .int (nI n), .ref b2, .ref b3, .ref b4, .ref b5, .ref b6, .ref b7, .ref b8, .ref b9, .ref b10, .ref b11, .int (nI rg - nI 1), .int (nI rn), .int (nI ro), .int (nI sp), .int (nI gp), .int (nI fx), .ref b12, .ref b13, .ref b14, .ref b15, .ref b16, .ref b17], zar b17 kb17 12 gw, zar q kA 12 f] := hD
    refine lv_iload_n hx hb dMD_weigh_2 rfl (lv_at hl 0 rfl) ?_
    refine lv_bipush (v := nI 12) hx hb dMD_weigh_3 (by decide) ?_
    have t1 := nI_toInt (n := i) (by omega)
    have t2 := nI_toInt (n := 12) (by omega)
    refine lv_icmp_ge (tgt := 23) hx hb dMD_weigh_5 rfl (fun h => by have h := z_le h; omega) (fun _ => ?_)
    refine lv_aload_n hx hb dMD_weigh_8 rfl (lv_at hl 2 rfl) ?_
    refine va_get (D := (dC, dI)) (ci := 6) (v := .ref b17) (C := RMD) (T := TMD) (N := 26) hx hb hz in_MD hown hK hP 0 rfl rfl 25 (by decide) (hz _ wd_609) (fun _ h9 => h9) rfl dMD_weigh_9 ?_
    refine lv_iload_n hx hb dMD_weigh_12 rfl (lv_at hl 0 rfl) ?_
    refine lv_aload_n hx hb dMD_weigh_13 rfl (lv_at hl 1 rfl) ?_
    refine lv_iload_n hx hb dMD_weigh_14 rfl (lv_at hl 0 rfl) ?_
    refine va_iald hx hb hK hP 2 1 rfl rfl (vp_in_nI (by omega) (by omega)) dMD_weigh_15 ?_
    refine lv_topi (fun y3 _ => ?_)
    refine va_iast hx hb hK hP hD hS 1 0 rfl rfl (vp_in_nI (by omega) (by omega)) dMD_weigh_16 (fun H locs hP hD hS => ?_)
    have hP : va_P (dC, dI) vwCl [zob h0 6 [.int (nI mg), .ref b0, .ref b1, .int (nI n), .ref b2, .ref b3, .ref b4, .ref b5, .ref b6, .ref b7, .ref b8, .ref b9, .ref b10, .ref b11, .int (nI rg - nI 1), .int (nI rn), .int (nI ro), .int (nI sp), .int (nI gp), .int (nI fx), .ref b12, .ref b13, .ref b14, .ref b15, .ref b16, .ref b17], zar b17 kb17 12 (upd gw (nI i).toNatClampNeg y3), zar q kA 12 f] H := hP
    have hD : va_D A [zob h0 6 [.int (nI mg), .ref b0, .ref b1, .int (nI n), .ref b2, .ref b3, .ref b4, .ref b5, .ref b6, .ref b7, .ref b8, .ref b9, .ref b10, .ref b11, .int (nI rg - nI 1), .int (nI rn), .int (nI ro), .int (nI sp), .int (nI gp), .int (nI fx), .ref b12, .ref b13, .ref b14, .ref b15, .ref b16, .ref b17], zar b17 kb17 12 (upd gw (nI i).toNatClampNeg y3), zar q kA 12 f] := hD
    obtain ⟨w4, e_w⟩ : ∃ f9 : Nat → Int32, f9 = upd gw (nI i).toNatClampNeg y3 := ⟨_, rfl⟩
    rw [← e_w] at hP hD
    have hP : va_P (dC, dI) vwCl [zob h0 6 [.int (nI mg), .ref b0, .ref b1, .int (nI n), .ref b2, .ref b3, .ref b4, .ref b5, .ref b6, .ref b7, .ref b8, .ref b9, .ref b10, .ref b11, .int (nI rg - nI 1), .int (nI rn), .int (nI ro), .int (nI sp), .int (nI gp), .int (nI fx), .ref b12, .ref b13, .ref b14, .ref b15, .ref b16, .ref b17], zar b17 kb17 12 w4, zar q kA 12 f] H := hP
    have hD : va_D A [zob h0 6 [.int (nI mg), .ref b0, .ref b1, .int (nI n), .ref b2, .ref b3, .ref b4, .ref b5, .ref b6, .ref b7, .ref b8, .ref b9, .ref b10, .ref b11, .int (nI rg - nI 1), .int (nI rn), .int (nI ro), .int (nI sp), .int (nI gp), .int (nI fx), .ref b12, .ref b13, .ref b14, .ref b15, .ref b16, .ref b17], zar b17 kb17 12 w4, zar q kA 12 f] := hD
    refine lv_iinc (k := 0) (v := nI (i + 1)) hx hb dMD_weigh_17 hl rfl (by rw [show Int32.ofInt 1 = nI 1 from by decide]; exact nI_add _ _) (Nat.le_of_ble_eq_true rfl) rfl (fun ls hl => ?_)
    have hl : lv_has ls 3 [(2, .int (nI (i + 1))), (1, .ref q), (0, .ref h0)] := hl
    refine lv_goto (tgt := 2) hx hb dMD_weigh_20 rfl ?_
    exact ih w4 ls H locs ⟨lv_sub hl [0, 1, 2] rfl, hP, hD, hS⟩

set_option maxHeartbeats 4000000 in
set_option maxRecDepth 100000 in
theorem f_MD_share (l : Launch) (dC : Nat → ClassId) (dI : Nat → Nat → Nat) (h0 : Nat) (b0 : Nat) (b1 : Nat) (b2 : Nat) (b3 : Nat) (b4 : Nat) (b5 : Nat) (b6 : Nat) (b7 : Nat) (b8 : Nat) (b9 : Nat) (b10 : Nat) (b11 : Nat) (b12 : Nat) (b13 : Nat) (b14 : Nat) (b15 : Nat) (b16 : Nat) (b17 : Nat) (mg : Nat) (n : Nat) (rg : Nat) (rn : Nat) (ro : Nat) (sp : Nat) (gp : Nat) (fx : Nat) (kb17 : ClassId) (fw : Nat → Int32) (nn : Int32) (q : Nat) (kA : ClassId) (f : Nat → Int32) (i0 : Nat) (e0 : Nat) (hi0 : i0 ≤ e0) (he0 : e0 ≤ 12) : zw_Mv (S := (Nat → Int32)) l yMD_share wMD_share ({ frames := 0, cells := 0, slots := 0, locals := 0 }) [.ref h0, .int nn, .ref q, .int (nI i0), .int (nI e0)] (dC, dI) vwCl [zob h0 6 [.int (nI mg), .ref b0, .ref b1, .int (nI n), .ref b2, .ref b3, .ref b4, .ref b5, .ref b6, .ref b7, .ref b8, .ref b9, .ref b10, .ref b11, .int (nI rg - nI 1), .int (nI rn), .int (nI ro), .int (nI sp), .int (nI gp), .int (nI fx), .ref b12, .ref b13, .ref b14, .ref b15, .ref b16, .ref b17], zar b17 kb17 12 fw, zar q kA 12 f] [(kb17, .int), (kA, .int)] (fun _ _ => True) (fun (f2 : Nat → Int32) => True) (fun (f2 : Nat → Int32) => [zob h0 6 [.int (nI mg), .ref b0, .ref b1, .int (nI n), .ref b2, .ref b3, .ref b4, .ref b5, .ref b6, .ref b7, .ref b8, .ref b9, .ref b10, .ref b11, .int (nI rg - nI 1), .int (nI rn), .int (nI ro), .int (nI sp), .int (nI gp), .int (nI fx), .ref b12, .ref b13, .ref b14, .ref b15, .ref b16, .ref b17], zar b17 kb17 12 fw, zar q kA 12 f2]) (fun (f2 : Nat → Int32) => []) 0 0 := by
  refine zw_headv (cc := cMD_share) (maxL := 9) (ret := none) (by decide +kernel) rfl (Nat.le_of_ble_eq_true rfl) ?_
  intro p e s m below meth c ls A F hnm hA hP hK hD hS hX hl
  obtain ⟨hx, hb, hml, hr, hlocks, hown, hts⟩ := F
  have hown : s.vm.findClass "SpannedCellsModel" = some m.cls := hown
  have hz : ∀ w9 ∈ zT, w9.before [.ref h0, .int nn, .ref q, .int (nI i0), .int (nI e0)].toArray s = true := fun w9 h => hts w9 (List.mem_cons_of_mem _ h)
  have hl : lv_has ls 9 [(0, .ref h0), (1, .int nn), (2, .ref q), (3, .int (nI i0)), (4, .int (nI e0))] := hl
  refine z_q (fun Q hQ => ?_)
  refine lv_iconst (v := nI 0) hx hb dMD_share_0 (by decide) ?_
  refine lv_istore hx hb dMD_share_1 hl (Nat.le_of_ble_eq_true rfl) rfl (fun ls hl => ?_)
  have hl : lv_has ls 9 [(5, .int (nI 0)), (0, .ref h0), (1, .int nn), (2, .ref q), (3, .int (nI i0)), (4, .int (nI e0))] := hl
  refine lv_iload_n hx hb dMD_share_3 rfl (lv_at hl 4 rfl) ?_
  refine lv_istore hx hb dMD_share_4 hl (Nat.le_of_ble_eq_true rfl) rfl (fun ls hl => ?_)
  have hl : lv_has ls 9 [(6, .int (nI i0)), (5, .int (nI 0)), (0, .ref h0), (1, .int nn), (2, .ref q), (3, .int (nI i0)), (4, .int (nI e0))] := hl
  refine zl_up (σ := (Int32)) e0 (fun i sm ls => lv_has ls 9 [(6, .int (nI i)), (5, .int sm), (4, .int (nI e0)), (3, .int (nI i0)), (2, .ref q), (1, .int nn), (0, .ref h0)]) ?_ ?_ i0 (hi0) (nI 0) ls (lv_sub hl [0, 1, 6, 5, 4, 3, 2] rfl)
  · intro x9 ls hI
    obtain ⟨sm, rfl⟩ : ∃ z, z = x9 := ⟨_, rfl⟩
    have hl := hI
    have hl : lv_has ls 9 [(6, .int (nI e0)), (5, .int sm), (4, .int (nI e0)), (3, .int (nI i0)), (2, .ref q), (1, .int nn), (0, .ref h0)] := hl
    refine lv_iload hx hb dMD_share_6 (lv_at hl 0 rfl) ?_
    refine lv_iload hx hb dMD_share_8 (lv_at hl 2 rfl) ?_
    have t1 := nI_toInt (n := e0) (by omega)
    have t2 := nI_toInt (n := e0) (by omega)
    refine lv_icmp_ge (tgt := 31) hx hb dMD_share_10 rfl (fun _ => ?_) (fun h => by have h := z_nle h; omega)
    refine lv_iload_n hx hb dMD_share_31 rfl (lv_at hl 5 rfl) ?_
    refine lv_istore hx hb dMD_share_32 hl (Nat.le_of_ble_eq_true rfl) rfl (fun ls hl => ?_)
    have hl : lv_has ls 9 [(6, .int nn), (5, .int sm), (4, .int (nI e0)), (3, .int (nI i0)), (2, .ref q), (1, .int nn), (0, .ref h0)] := hl
    refine lv_iload_n hx hb dMD_share_34 rfl (lv_at hl 3 rfl) ?_
    refine lv_istore hx hb dMD_share_35 hl (Nat.le_of_ble_eq_true rfl) rfl (fun ls hl => ?_)
    have hl : lv_has ls 9 [(7, .int (nI i0)), (6, .int nn), (5, .int sm), (4, .int (nI e0)), (3, .int (nI i0)), (2, .ref q), (1, .int nn), (0, .ref h0)] := hl
    refine zl_upW (σ := (Int32) × (Nat → Int32)) e0 (fun i x9 ls H locs => match x9 with | (lf, fo) => lv_has ls 9 [(7, .int (nI i)), (6, .int lf), (5, .int sm), (4, .int (nI e0)), (3, .int (nI i0)), (2, .ref q), (1, .int nn), (0, .ref h0)] ∧ (i0 ≤ i) ∧ va_P (dC, dI) vwCl [zob h0 6 [.int (nI mg), .ref b0, .ref b1, .int (nI n), .ref b2, .ref b3, .ref b4, .ref b5, .ref b6, .ref b7, .ref b8, .ref b9, .ref b10, .ref b11, .int (nI rg - nI 1), .int (nI rn), .int (nI ro), .int (nI sp), .int (nI gp), .int (nI fx), .ref b12, .ref b13, .ref b14, .ref b15, .ref b16, .ref b17], zar b17 kb17 12 fw, zar q kA 12 fo] H ∧ va_D A [zob h0 6 [.int (nI mg), .ref b0, .ref b1, .int (nI n), .ref b2, .ref b3, .ref b4, .ref b5, .ref b6, .ref b7, .ref b8, .ref b9, .ref b10, .ref b11, .int (nI rg - nI 1), .int (nI rn), .int (nI ro), .int (nI sp), .int (nI gp), .int (nI fx), .ref b12, .ref b13, .ref b14, .ref b15, .ref b16, .ref b17], zar b17 kb17 12 fw, zar q kA 12 fo] ∧ va_S A s.heap H locs) ?_ ?_ i0 (hi0) (nn, f) ls s.heap [] ⟨lv_sub hl [0, 1, 2, 3, 4, 5, 6, 7] rfl, Nat.le_refl _, hP, hD, hS⟩
    · intro x9 ls H locs hI
      obtain ⟨lf, fo⟩ := x9
      obtain ⟨hl, hxI, hP, hD, hS⟩ := hI
      have hl : lv_has ls 9 [(7, .int (nI e0)), (6, .int lf), (5, .int sm), (4, .int (nI e0)), (3, .int (nI i0)), (2, .ref q), (1, .int nn), (0, .ref h0)] := hl
      have hP : va_P (dC, dI) vwCl [zob h0 6 [.int (nI mg), .ref b0, .ref b1, .int (nI n), .ref b2, .ref b3, .ref b4, .ref b5, .ref b6, .ref b7, .ref b8, .ref b9, .ref b10, .ref b11, .int (nI rg - nI 1), .int (nI rn), .int (nI ro), .int (nI sp), .int (nI gp), .int (nI fx), .ref b12, .ref b13, .ref b14, .ref b15, .ref b16, .ref b17], zar b17 kb17 12 fw, zar q kA 12 fo] H := hP
      have hD : va_D A [zob h0 6 [.int (nI mg), .ref b0, .ref b1, .int (nI n), .ref b2, .ref b3, .ref b4, .ref b5, .ref b6, .ref b7, .ref b8, .ref b9, .ref b10, .ref b11, .int (nI rg - nI 1), .int (nI rn), .int (nI ro), .int (nI sp), .int (nI gp), .int (nI fx), .ref b12, .ref b13, .ref b14, .ref b15, .ref b16, .ref b17], zar b17 kb17 12 fw, zar q kA 12 fo] := hD
      refine lv_iload hx hb dMD_share_37 (lv_at hl 0 rfl) ?_
      refine lv_iload hx hb dMD_share_39 (lv_at hl 3 rfl) ?_
      have t3 := nI_toInt (n := e0) (by omega)
      have t4 := nI_toInt (n := e0) (by omega)
      refine lv_icmp_ge (tgt := 100) hx hb dMD_share_41 rfl (fun _ => ?_) (fun h => by have h := z_nle h; omega)
      refine lv_iload_n hx hb dMD_share_100 rfl (lv_at hl 4 rfl) ?_
      refine lv_istore hx hb dMD_share_101 hl (Nat.le_of_ble_eq_true rfl) rfl (fun ls hl => ?_)
      have hl : lv_has ls 9 [(7, .int (nI i0)), (6, .int lf), (5, .int sm), (4, .int (nI e0)), (3, .int (nI i0)), (2, .ref q), (1, .int nn), (0, .ref h0)] := hl
      refine zl_upW (σ := (Int32) × (Nat → Int32)) e0 (fun i x9 ls H locs => match x9 with | (lg, fp) => lv_has ls 9 [(7, .int (nI i)), (6, .int lg), (5, .int sm), (4, .int (nI e0)), (3, .int (nI i0)), (2, .ref q), (1, .int nn), (0, .ref h0)] ∧ va_P (dC, dI) vwCl [zob h0 6 [.int (nI mg), .ref b0, .ref b1, .int (nI n), .ref b2, .ref b3, .ref b4, .ref b5, .ref b6, .ref b7, .ref b8, .ref b9, .ref b10, .ref b11, .int (nI rg - nI 1), .int (nI rn), .int (nI ro), .int (nI sp), .int (nI gp), .int (nI fx), .ref b12, .ref b13, .ref b14, .ref b15, .ref b16, .ref b17], zar b17 kb17 12 fw, zar q kA 12 fp] H ∧ va_D A [zob h0 6 [.int (nI mg), .ref b0, .ref b1, .int (nI n), .ref b2, .ref b3, .ref b4, .ref b5, .ref b6, .ref b7, .ref b8, .ref b9, .ref b10, .ref b11, .int (nI rg - nI 1), .int (nI rn), .int (nI ro), .int (nI sp), .int (nI gp), .int (nI fx), .ref b12, .ref b13, .ref b14, .ref b15, .ref b16, .ref b17], zar b17 kb17 12 fw, zar q kA 12 fp] ∧ va_S A s.heap H locs) ?_ ?_ i0 (hi0) (lf, fo) ls H locs ⟨lv_sub hl [0, 1, 2, 3, 4, 5, 6, 7] rfl, hP, hD, hS⟩
      · intro x9 ls H locs hI
        obtain ⟨lg, fp⟩ := x9
        obtain ⟨hl, hP, hD, hS⟩ := hI
        have hl : lv_has ls 9 [(7, .int (nI e0)), (6, .int lg), (5, .int sm), (4, .int (nI e0)), (3, .int (nI i0)), (2, .ref q), (1, .int nn), (0, .ref h0)] := hl
        have hP : va_P (dC, dI) vwCl [zob h0 6 [.int (nI mg), .ref b0, .ref b1, .int (nI n), .ref b2, .ref b3, .ref b4, .ref b5, .ref b6, .ref b7, .ref b8, .ref b9, .ref b10, .ref b11, .int (nI rg - nI 1), .int (nI rn), .int (nI ro), .int (nI sp), .int (nI gp), .int (nI fx), .ref b12, .ref b13, .ref b14, .ref b15, .ref b16, .ref b17], zar b17 kb17 12 fw, zar q kA 12 fp] H := hP
        have hD : va_D A [zob h0 6 [.int (nI mg), .ref b0, .ref b1, .int (nI n), .ref b2, .ref b3, .ref b4, .ref b5, .ref b6, .ref b7, .ref b8, .ref b9, .ref b10, .ref b11, .int (nI rg - nI 1), .int (nI rn), .int (nI ro), .int (nI sp), .int (nI gp), .int (nI fx), .ref b12, .ref b13, .ref b14, .ref b15, .ref b16, .ref b17], zar b17 kb17 12 fw, zar q kA 12 fp] := hD
        refine lv_iload hx hb dMD_share_103 (lv_at hl 0 rfl) ?_
        refine lv_iload hx hb dMD_share_105 (lv_at hl 3 rfl) ?_
        have t5 := nI_toInt (n := e0) (by omega)
        have t6 := nI_toInt (n := e0) (by omega)
        refine lv_icmp_ge (tgt := 137) hx hb dMD_share_107 rfl (fun _ => ?_) (fun h => by have h := z_nle h; omega)
        subst hQ
        exact zw_vret (D := (dC, dI)) (cl := vwCl) (A := A) fp hx hb hr hlocks (trivial) (hP.sub [0, 1, 2] rfl) (hK.sub [] rfl) (hD.sub [0, 1, 2] (by decide) rfl) hS dMD_share_137
      · intro i hi ih
        intro x9 ls H locs hI
        obtain ⟨lg, fp⟩ := x9
        obtain ⟨hl, hP, hD, hS⟩ := hI
        have hl : lv_has ls 9 [(7, .int (nI i)), (6, .int lg), (5, .int sm), (4, .int (nI e0)), (3, .int (nI i0)), (2, .ref q), (1, .int nn), (0, .ref h0)] := hl
        have hP : va_P (dC, dI) vwCl [zob h0 6 [.int (nI mg), .ref b0, .ref b1, .int (nI n), .ref b2, .ref b3, .ref b4, .ref b5, .ref b6, .ref b7, .ref b8, .ref b9, .ref b10, .ref b11, .int (nI rg - nI 1), .int (nI rn), .int (nI ro), .int (nI sp), .int (nI gp), .int (nI fx), .ref b12, .ref b13, .ref b14, .ref b15, .ref b16, .ref b17], zar b17 kb17 12 fw, zar q kA 12 fp] H := hP
        have hD : va_D A [zob h0 6 [.int (nI mg), .ref b0, .ref b1, .int (nI n), .ref b2, .ref b3, .ref b4, .ref b5, .ref b6, .ref b7, .ref b8, .ref b9, .ref b10, .ref b11, .int (nI rg - nI 1), .int (nI rn), .int (nI ro), .int (nI sp), .int (nI gp), .int (nI fx), .ref b12, .ref b13, .ref b14, .ref b15, .ref b16, .ref b17], zar b17 kb17 12 fw, zar q kA 12 fp] := hD
        refine lv_iload hx hb dMD_share_103 (lv_at hl 0 rfl) ?_
        refine lv_iload hx hb dMD_share_105 (lv_at hl 3 rfl) ?_
        have t7 := nI_toInt (n := i) (by omega)
        have t8 := nI_toInt (n := e0) (by omega)
        refine lv_icmp_ge (tgt := 137) hx hb dMD_share_107 rfl (fun h => by have h := z_le h; omega) (fun _ => ?_)
        refine lv_iload hx hb dMD_share_110 (lv_at hl 1 rfl) ?_
        refine lv_if_le (tgt := 137) hx hb dMD_share_112 rfl (fun h9 => ?_) (fun h9 => ?_)
        · subst hQ
          exact zw_vret (D := (dC, dI)) (cl := vwCl) (A := A) fp hx hb hr hlocks (trivial) (hP.sub [0, 1, 2] rfl) (hK.sub [] rfl) (hD.sub [0, 1, 2] (by decide) rfl) hS dMD_share_137
        · refine lv_aload_n hx hb dMD_share_115 rfl (lv_at hl 5 rfl) ?_
          refine lv_iload hx hb dMD_share_116 (lv_at hl 0 rfl) ?_
          refine lv_aload_n hx hb dMD_share_118 rfl (lv_at hl 5 rfl) ?_
          refine lv_iload hx hb dMD_share_119 (lv_at hl 0 rfl) ?_
          refine va_iald hx hb hK hP 2 1 rfl rfl (vp_in_nI (by omega) (by omega)) dMD_share_121 ?_
          refine lv_topi (fun y10 _ => ?_)
          refine lv_iconst (v := nI 1) hx hb dMD_share_122 (by decide) ?_
          refine lv_iadd hx hb dMD_share_123 ?_
          refine lv_topi (fun y11 _ => ?_)
          refine va_iast hx hb hK hP hD hS 2 1 rfl rfl (vp_in_nI (by omega) (by omega)) dMD_share_124 (fun H locs hP hD hS => ?_)
          have hP : va_P (dC, dI) vwCl [zob h0 6 [.int (nI mg), .ref b0, .ref b1, .int (nI n), .ref b2, .ref b3, .ref b4, .ref b5, .ref b6, .ref b7, .ref b8, .ref b9, .ref b10, .ref b11, .int (nI rg - nI 1), .int (nI rn), .int (nI ro), .int (nI sp), .int (nI gp), .int (nI fx), .ref b12, .ref b13, .ref b14, .ref b15, .ref b16, .ref b17], zar b17 kb17 12 fw, zar q kA 12 (upd fp (nI i).toNatClampNeg y11)] H := hP
          have hD : va_D A [zob h0 6 [.int (nI mg), .ref b0, .ref b1, .int (nI n), .ref b2, .ref b3, .ref b4, .ref b5, .ref b6, .ref b7, .ref b8, .ref b9, .ref b10, .ref b11, .int (nI rg - nI 1), .int (nI rn), .int (nI ro), .int (nI sp), .int (nI gp), .int (nI fx), .ref b12, .ref b13, .ref b14, .ref b15, .ref b16, .ref b17], zar b17 kb17 12 fw, zar q kA 12 (upd fp (nI i).toNatClampNeg y11)] := hD
          obtain ⟨w12, e_w⟩ : ∃ f9 : Nat → Int32, f9 = upd fp (nI i).toNatClampNeg y11 := ⟨_, rfl⟩
          rw [← e_w] at hP hD
          have hP : va_P (dC, dI) vwCl [zob h0 6 [.int (nI mg), .ref b0, .ref b1, .int (nI n), .ref b2, .ref b3, .ref b4, .ref b5, .ref b6, .ref b7, .ref b8, .ref b9, .ref b10, .ref b11, .int (nI rg - nI 1), .int (nI rn), .int (nI ro), .int (nI sp), .int (nI gp), .int (nI fx), .ref b12, .ref b13, .ref b14, .ref b15, .ref b16, .ref b17], zar b17 kb17 12 fw, zar q kA 12 w12] H := hP
          have hD : va_D A [zob h0 6 [.int (nI mg), .ref b0, .ref b1, .int (nI n), .ref b2, .ref b3, .ref b4, .ref b5, .ref b6, .ref b7, .ref b8, .ref b9, .ref b10, .ref b11, .int (nI rg - nI 1), .int (nI rn), .int (nI ro), .int (nI sp), .int (nI gp), .int (nI fx), .ref b12, .ref b13, .ref b14, .ref b15, .ref b16, .ref b17], zar b17 kb17 12 fw, zar q kA 12 w12] := hD
          refine lv_iload hx hb dMD_share_125 (lv_at hl 1 rfl) ?_
          refine lv_iconst (v := nI 1) hx hb dMD_share_127 (by decide) ?_
          refine lv_isub hx hb dMD_share_128 ?_
          refine lv_topi (fun y13 _ => ?_)
          refine lv_istore hx hb dMD_share_129 hl (Nat.le_of_ble_eq_true rfl) rfl (fun ls hl => ?_)
          have hl : lv_has ls 9 [(6, .int y13), (7, .int (nI i)), (5, .int sm), (4, .int (nI e0)), (3, .int (nI i0)), (2, .ref q), (1, .int nn), (0, .ref h0)] := hl
          refine lv_iinc (k := 1) (v := nI (i + 1)) hx hb dMD_share_131 hl rfl (by rw [show Int32.ofInt 1 = nI 1 from by decide]; exact nI_add _ _) (Nat.le_of_ble_eq_true rfl) rfl (fun ls hl => ?_)
          have hl : lv_has ls 9 [(7, .int (nI (i + 1))), (6, .int y13), (5, .int sm), (4, .int (nI e0)), (3, .int (nI i0)), (2, .ref q), (1, .int nn), (0, .ref h0)] := hl
          refine lv_goto (tgt := 103) hx hb dMD_share_134 rfl ?_
          exact ih (y13, w12) ls H locs ⟨lv_sub hl [0, 1, 2, 3, 4, 5, 6, 7] rfl, hP, hD, hS⟩
    · intro i hi ih
      intro x9 ls H locs hI
      obtain ⟨lf, fo⟩ := x9
      obtain ⟨hl, hxI, hP, hD, hS⟩ := hI
      have hl : lv_has ls 9 [(7, .int (nI i)), (6, .int lf), (5, .int sm), (4, .int (nI e0)), (3, .int (nI i0)), (2, .ref q), (1, .int nn), (0, .ref h0)] := hl
      have hP : va_P (dC, dI) vwCl [zob h0 6 [.int (nI mg), .ref b0, .ref b1, .int (nI n), .ref b2, .ref b3, .ref b4, .ref b5, .ref b6, .ref b7, .ref b8, .ref b9, .ref b10, .ref b11, .int (nI rg - nI 1), .int (nI rn), .int (nI ro), .int (nI sp), .int (nI gp), .int (nI fx), .ref b12, .ref b13, .ref b14, .ref b15, .ref b16, .ref b17], zar b17 kb17 12 fw, zar q kA 12 fo] H := hP
      have hD : va_D A [zob h0 6 [.int (nI mg), .ref b0, .ref b1, .int (nI n), .ref b2, .ref b3, .ref b4, .ref b5, .ref b6, .ref b7, .ref b8, .ref b9, .ref b10, .ref b11, .int (nI rg - nI 1), .int (nI rn), .int (nI ro), .int (nI sp), .int (nI gp), .int (nI fx), .ref b12, .ref b13, .ref b14, .ref b15, .ref b16, .ref b17], zar b17 kb17 12 fw, zar q kA 12 fo] := hD
      refine lv_iload hx hb dMD_share_37 (lv_at hl 0 rfl) ?_
      refine lv_iload hx hb dMD_share_39 (lv_at hl 3 rfl) ?_
      have t14 := nI_toInt (n := i) (by omega)
      have t15 := nI_toInt (n := e0) (by omega)
      refine lv_icmp_ge (tgt := 100) hx hb dMD_share_41 rfl (fun h => by have h := z_le h; omega) (fun _ => ?_)
      refine z_join (fun v1 : Int32 => True) (fun v1 => W p l e ({ frames := 0, cells := 0, slots := 0, locals := 0 }) s m [.ref h0, .int nn, .ref q, .int (nI i0), .int (nI e0)].toArray below meth c H locs 0 0 Q (F0 m 74 ls (.int v1 :: []))) (fun v1 hv1 => ?_) (fun J74 => ?_)
      · refine lv_istore hx hb dMD_share_74 hl (Nat.le_of_ble_eq_true rfl) rfl (fun ls hl => ?_)
        have hl : lv_has ls 9 [(8, .int v1), (7, .int (nI i)), (6, .int lf), (5, .int sm), (4, .int (nI e0)), (3, .int (nI i0)), (2, .ref q), (1, .int nn), (0, .ref h0)] := hl
        refine lv_aload_n hx hb dMD_share_76 rfl (lv_at hl 6 rfl) ?_
        refine lv_iload hx hb dMD_share_77 (lv_at hl 1 rfl) ?_
        refine lv_aload_n hx hb dMD_share_79 rfl (lv_at hl 6 rfl) ?_
        refine lv_iload hx hb dMD_share_80 (lv_at hl 1 rfl) ?_
        refine va_iald hx hb hK hP 2 1 rfl rfl (vp_in_nI (by omega) (by omega)) dMD_share_82 ?_
        refine lv_topi (fun y16 _ => ?_)
        refine lv_iload hx hb dMD_share_83 (lv_at hl 0 rfl) ?_
        refine lv_iadd hx hb dMD_share_85 ?_
        refine lv_topi (fun y17 _ => ?_)
        refine va_iast hx hb hK hP hD hS 2 1 rfl rfl (vp_in_nI (by omega) (by omega)) dMD_share_86 (fun H locs hP hD hS => ?_)
        have hP : va_P (dC, dI) vwCl [zob h0 6 [.int (nI mg), .ref b0, .ref b1, .int (nI n), .ref b2, .ref b3, .ref b4, .ref b5, .ref b6, .ref b7, .ref b8, .ref b9, .ref b10, .ref b11, .int (nI rg - nI 1), .int (nI rn), .int (nI ro), .int (nI sp), .int (nI gp), .int (nI fx), .ref b12, .ref b13, .ref b14, .ref b15, .ref b16, .ref b17], zar b17 kb17 12 fw, zar q kA 12 (upd fo (nI i).toNatClampNeg y17)] H := hP
        have hD : va_D A [zob h0 6 [.int (nI mg), .ref b0, .ref b1, .int (nI n), .ref b2, .ref b3, .ref b4, .ref b5, .ref b6, .ref b7, .ref b8, .ref b9, .ref b10, .ref b11, .int (nI rg - nI 1), .int (nI rn), .int (nI ro), .int (nI sp), .int (nI gp), .int (nI fx), .ref b12, .ref b13, .ref b14, .ref b15, .ref b16, .ref b17], zar b17 kb17 12 fw, zar q kA 12 (upd fo (nI i).toNatClampNeg y17)] := hD
        obtain ⟨w18, e_w⟩ : ∃ f9 : Nat → Int32, f9 = upd fo (nI i).toNatClampNeg y17 := ⟨_, rfl⟩
        rw [← e_w] at hP hD
        have hP : va_P (dC, dI) vwCl [zob h0 6 [.int (nI mg), .ref b0, .ref b1, .int (nI n), .ref b2, .ref b3, .ref b4, .ref b5, .ref b6, .ref b7, .ref b8, .ref b9, .ref b10, .ref b11, .int (nI rg - nI 1), .int (nI rn), .int (nI ro), .int (nI sp), .int (nI gp), .int (nI fx), .ref b12, .ref b13, .ref b14, .ref b15, .ref b16, .ref b17], zar b17 kb17 12 fw, zar q kA 12 w18] H := hP
        have hD : va_D A [zob h0 6 [.int (nI mg), .ref b0, .ref b1, .int (nI n), .ref b2, .ref b3, .ref b4, .ref b5, .ref b6, .ref b7, .ref b8, .ref b9, .ref b10, .ref b11, .int (nI rg - nI 1), .int (nI rn), .int (nI ro), .int (nI sp), .int (nI gp), .int (nI fx), .ref b12, .ref b13, .ref b14, .ref b15, .ref b16, .ref b17], zar b17 kb17 12 fw, zar q kA 12 w18] := hD
        refine lv_iload hx hb dMD_share_87 (lv_at hl 2 rfl) ?_
        refine lv_iload hx hb dMD_share_89 (lv_at hl 0 rfl) ?_
        refine lv_isub hx hb dMD_share_91 ?_
        refine lv_topi (fun y19 _ => ?_)
        refine lv_istore hx hb dMD_share_92 hl (Nat.le_of_ble_eq_true rfl) rfl (fun ls hl => ?_)
        have hl : lv_has ls 9 [(6, .int y19), (8, .int v1), (7, .int (nI i)), (5, .int sm), (4, .int (nI e0)), (3, .int (nI i0)), (2, .ref q), (1, .int nn), (0, .ref h0)] := hl
        refine lv_iinc (k := 2) (v := nI (i + 1)) hx hb dMD_share_94 hl rfl (by rw [show Int32.ofInt 1 = nI 1 from by decide]; exact nI_add _ _) (Nat.le_of_ble_eq_true rfl) rfl (fun ls hl => ?_)
        have hl : lv_has ls 9 [(7, .int (nI (i + 1))), (6, .int y19), (8, .int v1), (5, .int sm), (4, .int (nI e0)), (3, .int (nI i0)), (2, .ref q), (1, .int nn), (0, .ref h0)] := hl
        refine lv_goto (tgt := 37) hx hb dMD_share_97 rfl ?_
        exact ih (y19, w18) ls H locs ⟨lv_sub hl [0, 1, 3, 4, 5, 6, 7, 8] rfl, by omega, hP, hD, hS⟩
      · refine lv_iload hx hb dMD_share_44 (lv_at hl 2 rfl) ?_
        refine lv_if_ne (tgt := 58) hx hb dMD_share_46 rfl (fun h_s => ?_) (fun h_s => ?_)
        · refine lv_iload_n hx hb dMD_share_58 rfl (lv_at hl 6 rfl) ?_
          refine lv_i2l hx hb dMD_share_59 rfl ?_
          refine lv_aload_n hx hb dMD_share_60 rfl (lv_at hl 7 rfl) ?_
          refine va_get (D := (dC, dI)) (ci := 6) (v := .ref b17) (C := RMD) (T := TMD) (N := 26) hx hb hz in_MD hown hK hP 0 rfl rfl 25 (by decide) (hz _ wd_609) (fun _ h9 => h9) rfl dMD_share_61 ?_
          refine lv_iload hx hb dMD_share_64 (lv_at hl 0 rfl) ?_
          refine va_iald hx hb hK hP 1 0 rfl rfl (vp_in_nI (by omega) (by omega)) dMD_share_66 ?_
          refine lv_topi (fun y21 _ => ?_)
          refine lv_i2l hx hb dMD_share_67 rfl ?_
          refine lv_lmul hx hb dMD_share_68 ?_
          refine lv_iload hx hb dMD_share_69 (lv_at hl 2 rfl) ?_
          refine lv_i2l hx hb dMD_share_71 rfl ?_
          refine lv_ldiv hx hb dMD_share_72 (z_lne h_s) ?_
          refine lv_l2i hx hb dMD_share_73 rfl ?_
          refine lv_topi (fun y22 _ => ?_)
          exact J74 _ (trivial)
        · refine lv_iload_n hx hb dMD_share_49 rfl (lv_at hl 6 rfl) ?_
          refine lv_iload hx hb dMD_share_50 (lv_at hl 3 rfl) ?_
          refine lv_iload_n hx hb dMD_share_52 rfl (lv_at hl 4 rfl) ?_
          refine lv_isub hx hb dMD_share_53 ?_
          refine lv_topi (fun x23 e24 => ?_)
          have e24 : x23 = nI (e0 - i0) := e24.trans (pk_sub (by omega))
          subst e24
          refine lv_idiv hx hb dMD_share_54 (nI_ne0 (by omega) (by omega)) ?_
          refine lv_topi (fun y25 _ => ?_)
          refine lv_goto (tgt := 74) hx hb dMD_share_55 rfl ?_
          exact J74 _ (trivial)
  · intro i hi ih
    intro x9 ls hI
    obtain ⟨sm, rfl⟩ : ∃ z, z = x9 := ⟨_, rfl⟩
    have hl := hI
    have hl : lv_has ls 9 [(6, .int (nI i)), (5, .int sm), (4, .int (nI e0)), (3, .int (nI i0)), (2, .ref q), (1, .int nn), (0, .ref h0)] := hl
    refine lv_iload hx hb dMD_share_6 (lv_at hl 0 rfl) ?_
    refine lv_iload hx hb dMD_share_8 (lv_at hl 2 rfl) ?_
    have t26 := nI_toInt (n := i) (by omega)
    have t27 := nI_toInt (n := e0) (by omega)
    refine lv_icmp_ge (tgt := 31) hx hb dMD_share_10 rfl (fun h => by have h := z_le h; omega) (fun _ => ?_)
    refine lv_iload hx hb dMD_share_13 (lv_at hl 1 rfl) ?_
    refine lv_aload_n hx hb dMD_share_15 rfl (lv_at hl 6 rfl) ?_
    refine va_get (D := (dC, dI)) (ci := 6) (v := .ref b17) (C := RMD) (T := TMD) (N := 26) hx hb hz in_MD hown hK hP 0 rfl rfl 25 (by decide) (hz _ wd_609) (fun _ h9 => h9) rfl dMD_share_16 ?_
    refine lv_iload hx hb dMD_share_19 (lv_at hl 0 rfl) ?_
    refine va_iald hx hb hK hP 1 0 rfl rfl (vp_in_nI (by omega) (by omega)) dMD_share_21 ?_
    refine lv_topi (fun y28 _ => ?_)
    refine lv_iadd hx hb dMD_share_22 ?_
    refine lv_topi (fun y29 _ => ?_)
    refine lv_istore hx hb dMD_share_23 hl (Nat.le_of_ble_eq_true rfl) rfl (fun ls hl => ?_)
    have hl : lv_has ls 9 [(5, .int y29), (6, .int (nI i)), (4, .int (nI e0)), (3, .int (nI i0)), (2, .ref q), (1, .int nn), (0, .ref h0)] := hl
    refine lv_iinc (k := 1) (v := nI (i + 1)) hx hb dMD_share_25 hl rfl (by rw [show Int32.ofInt 1 = nI 1 from by decide]; exact nI_add _ _) (Nat.le_of_ble_eq_true rfl) rfl (fun ls hl => ?_)
    have hl : lv_has ls 9 [(6, .int (nI (i + 1))), (5, .int y29), (4, .int (nI e0)), (3, .int (nI i0)), (2, .ref q), (1, .int nn), (0, .ref h0)] := hl
    refine lv_goto (tgt := 6) hx hb dMD_share_28 rfl ?_
    exact ih y29 ls (lv_sub hl [0, 1, 2, 3, 4, 5, 6] rfl)
