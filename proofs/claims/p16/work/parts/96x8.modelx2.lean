set_option maxHeartbeats 4000000 in
set_option maxRecDepth 100000 in
theorem x_MD_share (l : Launch) (dC : Nat → ClassId) (dI : Nat → Nat → Nat) (h0 : Nat) (b0 : Nat) (b1 : Nat) (b2 : Nat) (b3 : Nat) (b4 : Nat) (b5 : Nat) (b6 : Nat) (b7 : Nat) (b8 : Nat) (b9 : Nat) (b10 : Nat) (b11 : Nat) (b12 : Nat) (b13 : Nat) (b14 : Nat) (b15 : Nat) (b16 : Nat) (b17 : Nat) (mg : Nat) (n : Nat) (rg : Nat) (rn : Nat) (ro : Nat) (sp : Nat) (gp : Nat) (fx : Nat) (kb17 : ClassId) (fw : Nat → Nat) (am : Nat) (q : Nat) (kA : ClassId) (f : Nat → Nat) (i0 : Nat) (e0 : Nat) (hi0 : i0 ≤ e0) (he0 : e0 ≤ 12) (hlt : i0 < e0) (hf : ∀ j, f j ≤ 20000) (hfw : ∀ j, fw j ≤ 20000) (ham : am ≤ 20000) : zw_Mv (S := (Nat → Nat)) l yMD_share wMD_share ({ frames := 0, cells := 0, slots := 0, locals := 0 }) [.ref h0, .int (nI am), .ref q, .int (nI i0), .int (nI e0)] (dC, dI) vwCl [zob h0 6 [.int (nI mg), .ref b0, .ref b1, .int (nI n), .ref b2, .ref b3, .ref b4, .ref b5, .ref b6, .ref b7, .ref b8, .ref b9, .ref b10, .ref b11, .int (nI rg - nI 1), .int (nI rn), .int (nI ro), .int (nI sp), .int (nI gp), .int (nI fx), .ref b12, .ref b13, .ref b14, .ref b15, .ref b16, .ref b17], zar b17 kb17 12 (fun j => nI (fw j)), zar q kA 12 (fun j => nI (f j))] [(kb17, .int), (kA, .int)] (fun _ _ => True) (fun (f2 : Nat → Nat) => f2 = zShr f fw am i0 e0) (fun (f2 : Nat → Nat) => [zob h0 6 [.int (nI mg), .ref b0, .ref b1, .int (nI n), .ref b2, .ref b3, .ref b4, .ref b5, .ref b6, .ref b7, .ref b8, .ref b9, .ref b10, .ref b11, .int (nI rg - nI 1), .int (nI rn), .int (nI ro), .int (nI sp), .int (nI gp), .int (nI fx), .ref b12, .ref b13, .ref b14, .ref b15, .ref b16, .ref b17], zar b17 kb17 12 (fun j => nI (fw j)), zar q kA 12 (fun j => nI (f2 j))]) (fun (f2 : Nat → Nat) => []) 0 0 := by
  refine zw_headv (cc := cMD_share) (maxL := 9) (ret := none) (by decide +kernel) rfl (Nat.le_of_ble_eq_true rfl) ?_
  intro p e s m below meth c ls A F hnm hA hP hK hD hS hX hl
  obtain ⟨hx, hb, hml, hr, hlocks, hown, hts⟩ := F
  have hown : s.vm.findClass "SpannedCellsModel" = some m.cls := hown
  have hz : ∀ w9 ∈ zT, w9.before [.ref h0, .int (nI am), .ref q, .int (nI i0), .int (nI e0)].toArray s = true := fun w9 h => hts w9 (List.mem_cons_of_mem _ h)
  have hl : lv_has ls 9 [(0, .ref h0), (1, .int (nI am)), (2, .ref q), (3, .int (nI i0)), (4, .int (nI e0))] := hl
  refine z_q (fun Q hQ => ?_)
  have hW := zRs_12 (f := fw) (i0 := i0) hfw he0
  have hLo : zLo fw am i0 e0 ≤ am := by unfold zLo; omega
  refine lv_iconst (v := nI 0) hx hb dMD_share_0 (by decide) ?_
  refine lv_topi (fun x1 e2 => ?_)
  have e2 : x1 = nI (zRs fw i0 i0) := e2.trans (by rw [zRs_0 (Nat.le_refl _)])
  subst e2
  refine lv_istore hx hb dMD_share_1 hl (Nat.le_of_ble_eq_true rfl) rfl (fun ls hl => ?_)
  have hl : lv_has ls 9 [(5, .int (nI (zRs fw i0 i0))), (0, .ref h0), (1, .int (nI am)), (2, .ref q), (3, .int (nI i0)), (4, .int (nI e0))] := hl
  refine lv_iload_n hx hb dMD_share_3 rfl (lv_at hl 4 rfl) ?_
  refine lv_istore hx hb dMD_share_4 hl (Nat.le_of_ble_eq_true rfl) rfl (fun ls hl => ?_)
  have hl : lv_has ls 9 [(6, .int (nI i0)), (5, .int (nI (zRs fw i0 i0))), (0, .ref h0), (1, .int (nI am)), (2, .ref q), (3, .int (nI i0)), (4, .int (nI e0))] := hl
  refine zl_up (σ := Unit) e0 (fun i x9 ls => lv_has ls 9 [(6, .int (nI i)), (5, .int (nI (zRs fw i0 i))), (4, .int (nI e0)), (3, .int (nI i0)), (2, .ref q), (1, .int (nI am)), (0, .ref h0)] ∧ (i0 ≤ i)) ?_ ?_ i0 (hi0) () ls ⟨lv_sub hl [0, 1, 6, 5, 4, 3, 2] rfl, Nat.le_refl _⟩
  · intro x9 ls hI
    obtain ⟨hl, hxI⟩ := hI
    have hl : lv_has ls 9 [(6, .int (nI e0)), (5, .int (nI (zRs fw i0 e0))), (4, .int (nI e0)), (3, .int (nI i0)), (2, .ref q), (1, .int (nI am)), (0, .ref h0)] := hl
    refine lv_iload hx hb dMD_share_6 (lv_at hl 0 rfl) ?_
    refine lv_iload hx hb dMD_share_8 (lv_at hl 2 rfl) ?_
    have t3 := nI_toInt (n := e0) (by omega)
    have t4 := nI_toInt (n := e0) (by omega)
    refine lv_icmp_ge (tgt := 31) hx hb dMD_share_10 rfl (fun _ => ?_) (fun h => by have h := z_nle h; omega)
    refine lv_iload_n hx hb dMD_share_31 rfl (lv_at hl 5 rfl) ?_
    refine lv_topi (fun x5 e6 => ?_)
    have e6 : x5 = nI (am - zRs (zPa fw am i0 e0) i0 i0) := e6.trans (by rw [zRs_0 (Nat.le_refl _), Nat.sub_zero])
    subst e6
    refine lv_istore hx hb dMD_share_32 hl (Nat.le_of_ble_eq_true rfl) rfl (fun ls hl => ?_)
    have hl : lv_has ls 9 [(6, .int (nI (am - zRs (zPa fw am i0 e0) i0 i0))), (5, .int (nI (zRs fw i0 e0))), (4, .int (nI e0)), (3, .int (nI i0)), (2, .ref q), (1, .int (nI am)), (0, .ref h0)] := hl
    refine lv_iload_n hx hb dMD_share_34 rfl (lv_at hl 3 rfl) ?_
    refine lv_istore hx hb dMD_share_35 hl (Nat.le_of_ble_eq_true rfl) rfl (fun ls hl => ?_)
    have hl : lv_has ls 9 [(7, .int (nI i0)), (6, .int (nI (am - zRs (zPa fw am i0 e0) i0 i0))), (5, .int (nI (zRs fw i0 e0))), (4, .int (nI e0)), (3, .int (nI i0)), (2, .ref q), (1, .int (nI am)), (0, .ref h0)] := hl
    rw [← zSh1_0 (f := f) (pt := zPa fw am i0 e0) (i0 := i0)] at hP hD
    refine zl_upW (σ := Unit) e0 (fun i x9 ls H locs => lv_has ls 9 [(7, .int (nI i)), (6, .int (nI (am - zRs (zPa fw am i0 e0) i0 i))), (5, .int (nI (zRs fw i0 e0))), (4, .int (nI e0)), (3, .int (nI i0)), (2, .ref q), (1, .int (nI am)), (0, .ref h0)] ∧ (i0 ≤ i) ∧ va_P (dC, dI) vwCl [zob h0 6 [.int (nI mg), .ref b0, .ref b1, .int (nI n), .ref b2, .ref b3, .ref b4, .ref b5, .ref b6, .ref b7, .ref b8, .ref b9, .ref b10, .ref b11, .int (nI rg - nI 1), .int (nI rn), .int (nI ro), .int (nI sp), .int (nI gp), .int (nI fx), .ref b12, .ref b13, .ref b14, .ref b15, .ref b16, .ref b17], zar b17 kb17 12 (fun j => nI (fw j)), zar q kA 12 (fun j => nI (zSh1 f (zPa fw am i0 e0) i0 i j))] H ∧ va_D A [zob h0 6 [.int (nI mg), .ref b0, .ref b1, .int (nI n), .ref b2, .ref b3, .ref b4, .ref b5, .ref b6, .ref b7, .ref b8, .ref b9, .ref b10, .ref b11, .int (nI rg - nI 1), .int (nI rn), .int (nI ro), .int (nI sp), .int (nI gp), .int (nI fx), .ref b12, .ref b13, .ref b14, .ref b15, .ref b16, .ref b17], zar b17 kb17 12 (fun j => nI (fw j)), zar q kA 12 (fun j => nI (zSh1 f (zPa fw am i0 e0) i0 i j))] ∧ va_S A s.heap H locs) ?_ ?_ i0 (hi0) () ls s.heap [] ⟨lv_sub hl [0, 1, 2, 3, 4, 5, 6, 7] rfl, Nat.le_refl _, hP, hD, hS⟩
    · intro x9 ls H locs hI
      obtain ⟨hl, hxK, hP, hD, hS⟩ := hI
      have hl : lv_has ls 9 [(7, .int (nI e0)), (6, .int (nI (am - zRs (zPa fw am i0 e0) i0 e0))), (5, .int (nI (zRs fw i0 e0))), (4, .int (nI e0)), (3, .int (nI i0)), (2, .ref q), (1, .int (nI am)), (0, .ref h0)] := hl
      have hP : va_P (dC, dI) vwCl [zob h0 6 [.int (nI mg), .ref b0, .ref b1, .int (nI n), .ref b2, .ref b3, .ref b4, .ref b5, .ref b6, .ref b7, .ref b8, .ref b9, .ref b10, .ref b11, .int (nI rg - nI 1), .int (nI rn), .int (nI ro), .int (nI sp), .int (nI gp), .int (nI fx), .ref b12, .ref b13, .ref b14, .ref b15, .ref b16, .ref b17], zar b17 kb17 12 (fun j => nI (fw j)), zar q kA 12 (fun j => nI (zSh1 f (zPa fw am i0 e0) i0 e0 j))] H := hP
      have hD : va_D A [zob h0 6 [.int (nI mg), .ref b0, .ref b1, .int (nI n), .ref b2, .ref b3, .ref b4, .ref b5, .ref b6, .ref b7, .ref b8, .ref b9, .ref b10, .ref b11, .int (nI rg - nI 1), .int (nI rn), .int (nI ro), .int (nI sp), .int (nI gp), .int (nI fx), .ref b12, .ref b13, .ref b14, .ref b15, .ref b16, .ref b17], zar b17 kb17 12 (fun j => nI (fw j)), zar q kA 12 (fun j => nI (zSh1 f (zPa fw am i0 e0) i0 e0 j))] := hD
      refine lv_iload hx hb dMD_share_37 (lv_at hl 0 rfl) ?_
      refine lv_iload hx hb dMD_share_39 (lv_at hl 3 rfl) ?_
      have t7 := nI_toInt (n := e0) (by omega)
      have t8 := nI_toInt (n := e0) (by omega)
      refine lv_icmp_ge (tgt := 100) hx hb dMD_share_41 rfl (fun _ => ?_) (fun h => by have h := z_nle h; omega)
      refine lv_iload_n hx hb dMD_share_100 rfl (lv_at hl 4 rfl) ?_
      refine lv_istore hx hb dMD_share_101 hl (Nat.le_of_ble_eq_true rfl) rfl (fun ls hl => ?_)
      have hl : lv_has ls 9 [(7, .int (nI i0)), (6, .int (nI (am - zRs (zPa fw am i0 e0) i0 e0))), (5, .int (nI (zRs fw i0 e0))), (4, .int (nI e0)), (3, .int (nI i0)), (2, .ref q), (1, .int (nI am)), (0, .ref h0)] := hl
      rw [← zIn_0 (g := zSh1 f (zPa fw am i0 e0) i0 e0) (i0 := i0)] at hP hD
      refine zl_upW (σ := (Nat)) e0 (fun i lf ls H locs => lv_has ls 9 [(7, .int (nI i)), (6, .int (nI lf)), (5, .int (nI (zRs fw i0 e0))), (4, .int (nI e0)), (3, .int (nI i0)), (2, .ref q), (1, .int (nI am)), (0, .ref h0)] ∧ (i0 ≤ i ∧ lf + (i - i0) = zLo fw am i0 e0) ∧ va_P (dC, dI) vwCl [zob h0 6 [.int (nI mg), .ref b0, .ref b1, .int (nI n), .ref b2, .ref b3, .ref b4, .ref b5, .ref b6, .ref b7, .ref b8, .ref b9, .ref b10, .ref b11, .int (nI rg - nI 1), .int (nI rn), .int (nI ro), .int (nI sp), .int (nI gp), .int (nI fx), .ref b12, .ref b13, .ref b14, .ref b15, .ref b16, .ref b17], zar b17 kb17 12 (fun j => nI (fw j)), zar q kA 12 (fun j => nI (zIn (zSh1 f (zPa fw am i0 e0) i0 e0) i0 i j))] H ∧ va_D A [zob h0 6 [.int (nI mg), .ref b0, .ref b1, .int (nI n), .ref b2, .ref b3, .ref b4, .ref b5, .ref b6, .ref b7, .ref b8, .ref b9, .ref b10, .ref b11, .int (nI rg - nI 1), .int (nI rn), .int (nI ro), .int (nI sp), .int (nI gp), .int (nI fx), .ref b12, .ref b13, .ref b14, .ref b15, .ref b16, .ref b17], zar b17 kb17 12 (fun j => nI (fw j)), zar q kA 12 (fun j => nI (zIn (zSh1 f (zPa fw am i0 e0) i0 e0) i0 i j))] ∧ va_S A s.heap H locs) ?_ ?_ i0 (hi0) (am - zRs (zPa fw am i0 e0) i0 e0) ls H locs ⟨lv_sub hl [0, 1, 2, 3, 4, 5, 6, 7] rfl, ⟨Nat.le_refl _, by unfold zLo; omega⟩, hP, hD, hS⟩
      · intro x9 ls H locs hI
        obtain ⟨lf, rfl⟩ : ∃ z, z = x9 := ⟨_, rfl⟩
        obtain ⟨hl, hxJ, hP, hD, hS⟩ := hI
        have hl : lv_has ls 9 [(7, .int (nI e0)), (6, .int (nI lf)), (5, .int (nI (zRs fw i0 e0))), (4, .int (nI e0)), (3, .int (nI i0)), (2, .ref q), (1, .int (nI am)), (0, .ref h0)] := hl
        have hP : va_P (dC, dI) vwCl [zob h0 6 [.int (nI mg), .ref b0, .ref b1, .int (nI n), .ref b2, .ref b3, .ref b4, .ref b5, .ref b6, .ref b7, .ref b8, .ref b9, .ref b10, .ref b11, .int (nI rg - nI 1), .int (nI rn), .int (nI ro), .int (nI sp), .int (nI gp), .int (nI fx), .ref b12, .ref b13, .ref b14, .ref b15, .ref b16, .ref b17], zar b17 kb17 12 (fun j => nI (fw j)), zar q kA 12 (fun j => nI (zIn (zSh1 f (zPa fw am i0 e0) i0 e0) i0 e0 j))] H := hP
        have hD : va_D A [zob h0 6 [.int (nI mg), .ref b0, .ref b1, .int (nI n), .ref b2, .ref b3, .ref b4, .ref b5, .ref b6, .ref b7, .ref b8, .ref b9, .ref b10, .ref b11, .int (nI rg - nI 1), .int (nI rn), .int (nI ro), .int (nI sp), .int (nI gp), .int (nI fx), .ref b12, .ref b13, .ref b14, .ref b15, .ref b16, .ref b17], zar b17 kb17 12 (fun j => nI (fw j)), zar q kA 12 (fun j => nI (zIn (zSh1 f (zPa fw am i0 e0) i0 e0) i0 e0 j))] := hD
        refine lv_iload hx hb dMD_share_103 (lv_at hl 0 rfl) ?_
        refine lv_iload hx hb dMD_share_105 (lv_at hl 3 rfl) ?_
        have t9 := nI_toInt (n := e0) (by omega)
        have t10 := nI_toInt (n := e0) (by omega)
        refine lv_icmp_ge (tgt := 137) hx hb dMD_share_107 rfl (fun _ => ?_) (fun h => by have h := z_nle h; omega)
        subst hQ
        exact zw_vret (D := (dC, dI)) (cl := vwCl) (A := A) (zIn (zSh1 f (zPa fw am i0 e0) i0 e0) i0 e0) hx hb hr hlocks (zShr_X (by omega)) (hP.sub [0, 1, 2] rfl) (hK.sub [] rfl) (hD.sub [0, 1, 2] (by decide) rfl) hS dMD_share_137
      · intro i hi ih
        intro x9 ls H locs hI
        obtain ⟨lf, rfl⟩ : ∃ z, z = x9 := ⟨_, rfl⟩
        obtain ⟨hl, hxJ, hP, hD, hS⟩ := hI
        have hl : lv_has ls 9 [(7, .int (nI i)), (6, .int (nI lf)), (5, .int (nI (zRs fw i0 e0))), (4, .int (nI e0)), (3, .int (nI i0)), (2, .ref q), (1, .int (nI am)), (0, .ref h0)] := hl
        have hP : va_P (dC, dI) vwCl [zob h0 6 [.int (nI mg), .ref b0, .ref b1, .int (nI n), .ref b2, .ref b3, .ref b4, .ref b5, .ref b6, .ref b7, .ref b8, .ref b9, .ref b10, .ref b11, .int (nI rg - nI 1), .int (nI rn), .int (nI ro), .int (nI sp), .int (nI gp), .int (nI fx), .ref b12, .ref b13, .ref b14, .ref b15, .ref b16, .ref b17], zar b17 kb17 12 (fun j => nI (fw j)), zar q kA 12 (fun j => nI (zIn (zSh1 f (zPa fw am i0 e0) i0 e0) i0 i j))] H := hP
        have hD : va_D A [zob h0 6 [.int (nI mg), .ref b0, .ref b1, .int (nI n), .ref b2, .ref b3, .ref b4, .ref b5, .ref b6, .ref b7, .ref b8, .ref b9, .ref b10, .ref b11, .int (nI rg - nI 1), .int (nI rn), .int (nI ro), .int (nI sp), .int (nI gp), .int (nI fx), .ref b12, .ref b13, .ref b14, .ref b15, .ref b16, .ref b17], zar b17 kb17 12 (fun j => nI (fw j)), zar q kA 12 (fun j => nI (zIn (zSh1 f (zPa fw am i0 e0) i0 e0) i0 i j))] := hD
        refine lv_iload hx hb dMD_share_103 (lv_at hl 0 rfl) ?_
        refine lv_iload hx hb dMD_share_105 (lv_at hl 3 rfl) ?_
        have t11 := nI_toInt (n := i) (by omega)
        have t12 := nI_toInt (n := e0) (by omega)
        refine lv_icmp_ge (tgt := 137) hx hb dMD_share_107 rfl (fun h => by have h := z_le h; omega) (fun _ => ?_)
        refine lv_iload hx hb dMD_share_110 (lv_at hl 1 rfl) ?_
        have t13 := nI_toInt (n := lf) (by omega)
        have t14 : (0 : Int32).toInt = 0 := by decide
        refine lv_if_le (tgt := 137) hx hb dMD_share_112 rfl (fun h_l => ?_) (fun h_l => ?_)
        · have h_l := z_le h_l
          subst hQ
          exact zw_vret (D := (dC, dI)) (cl := vwCl) (A := A) (zIn (zSh1 f (zPa fw am i0 e0) i0 e0) i0 i) hx hb hr hlocks (zShr_S (by omega) (by omega)) (hP.sub [0, 1, 2] rfl) (hK.sub [] rfl) (hD.sub [0, 1, 2] (by decide) rfl) hS dMD_share_137
        · have h_l := z_nle h_l
          refine lv_aload_n hx hb dMD_share_115 rfl (lv_at hl 5 rfl) ?_
          refine lv_iload hx hb dMD_share_116 (lv_at hl 0 rfl) ?_
          refine lv_aload_n hx hb dMD_share_118 rfl (lv_at hl 5 rfl) ?_
          refine lv_iload hx hb dMD_share_119 (lv_at hl 0 rfl) ?_
          refine va_iald hx hb hK hP 2 1 rfl rfl (vp_in_nI (by omega) (by omega)) dMD_share_121 ?_
          refine lv_topi (fun x16 e17 => ?_)
          have e17 : x16 = nI (zSh1 f (zPa fw am i0 e0) i0 e0 i) := e17.trans (by show nI (zIn (zSh1 f (zPa fw am i0 e0) i0 e0) i0 i (nI i).toNatClampNeg) = _; rw [nI_clamp (by omega), zIn_at])
          subst e17
          refine lv_iconst (v := nI 1) hx hb dMD_share_122 (by decide) ?_
          refine lv_iadd hx hb dMD_share_123 ?_
          refine lv_topi (fun x18 e19 => ?_)
          have e19 : x18 = nI ((zSh1 f (zPa fw am i0 e0) i0 e0 i) + 1) := e19.trans (nI_add _ _)
          subst e19
          refine va_iast hx hb hK hP hD hS 2 1 rfl rfl (vp_in_nI (by omega) (by omega)) dMD_share_124 (fun H locs hP hD hS => ?_)
          have e_u := z_upd (f := zIn (zSh1 f (zPa fw am i0 e0) i0 e0) i0 i) (k := i) (v := (zSh1 f (zPa fw am i0 e0) i0 e0 i) + 1) (by omega)
          have hP : va_P (dC, dI) vwCl [zob h0 6 [.int (nI mg), .ref b0, .ref b1, .int (nI n), .ref b2, .ref b3, .ref b4, .ref b5, .ref b6, .ref b7, .ref b8, .ref b9, .ref b10, .ref b11, .int (nI rg - nI 1), .int (nI rn), .int (nI ro), .int (nI sp), .int (nI gp), .int (nI fx), .ref b12, .ref b13, .ref b14, .ref b15, .ref b16, .ref b17], zar b17 kb17 12 (fun j => nI (fw j)), zar q kA 12 (fun j => nI (va_up (zIn (zSh1 f (zPa fw am i0 e0) i0 e0) i0 i) i ((zSh1 f (zPa fw am i0 e0) i0 e0 i) + 1) j))] H := by rw [← e_u]; exact hP
          have hD : va_D A [zob h0 6 [.int (nI mg), .ref b0, .ref b1, .int (nI n), .ref b2, .ref b3, .ref b4, .ref b5, .ref b6, .ref b7, .ref b8, .ref b9, .ref b10, .ref b11, .int (nI rg - nI 1), .int (nI rn), .int (nI ro), .int (nI sp), .int (nI gp), .int (nI fx), .ref b12, .ref b13, .ref b14, .ref b15, .ref b16, .ref b17], zar b17 kb17 12 (fun j => nI (fw j)), zar q kA 12 (fun j => nI (va_up (zIn (zSh1 f (zPa fw am i0 e0) i0 e0) i0 i) i ((zSh1 f (zPa fw am i0 e0) i0 e0 i) + 1) j))] := by rw [← e_u]; exact hD
          refine lv_iload hx hb dMD_share_125 (lv_at hl 1 rfl) ?_
          refine lv_iconst (v := nI 1) hx hb dMD_share_127 (by decide) ?_
          refine lv_isub hx hb dMD_share_128 ?_
          refine lv_topi (fun x20 e21 => ?_)
          have e21 : x20 = nI (lf - 1) := e21.trans (pk_sub (by omega))
          subst e21
          refine lv_istore hx hb dMD_share_129 hl (Nat.le_of_ble_eq_true rfl) rfl (fun ls hl => ?_)
          have hl : lv_has ls 9 [(6, .int (nI (lf - 1))), (7, .int (nI i)), (5, .int (nI (zRs fw i0 e0))), (4, .int (nI e0)), (3, .int (nI i0)), (2, .ref q), (1, .int (nI am)), (0, .ref h0)] := hl
          refine lv_iinc (k := 1) (v := nI (i + 1)) hx hb dMD_share_131 hl rfl (by rw [show Int32.ofInt 1 = nI 1 from by decide]; exact nI_add _ _) (Nat.le_of_ble_eq_true rfl) rfl (fun ls hl => ?_)
          have hl : lv_has ls 9 [(7, .int (nI (i + 1))), (6, .int (nI (lf - 1))), (5, .int (nI (zRs fw i0 e0))), (4, .int (nI e0)), (3, .int (nI i0)), (2, .ref q), (1, .int (nI am)), (0, .ref h0)] := hl
          refine lv_goto (tgt := 103) hx hb dMD_share_134 rfl ?_
          rw [zIn_s (by omega)] at hP hD
          exact ih (lf - 1) ls H locs ⟨lv_sub hl [0, 1, 2, 3, 4, 5, 6, 7] rfl, ⟨by omega, by omega⟩, hP, hD, hS⟩
    · intro i hi ih
      intro x9 ls H locs hI
      obtain ⟨hl, hxK, hP, hD, hS⟩ := hI
      have hl : lv_has ls 9 [(7, .int (nI i)), (6, .int (nI (am - zRs (zPa fw am i0 e0) i0 i))), (5, .int (nI (zRs fw i0 e0))), (4, .int (nI e0)), (3, .int (nI i0)), (2, .ref q), (1, .int (nI am)), (0, .ref h0)] := hl
      have hP : va_P (dC, dI) vwCl [zob h0 6 [.int (nI mg), .ref b0, .ref b1, .int (nI n), .ref b2, .ref b3, .ref b4, .ref b5, .ref b6, .ref b7, .ref b8, .ref b9, .ref b10, .ref b11, .int (nI rg - nI 1), .int (nI rn), .int (nI ro), .int (nI sp), .int (nI gp), .int (nI fx), .ref b12, .ref b13, .ref b14, .ref b15, .ref b16, .ref b17], zar b17 kb17 12 (fun j => nI (fw j)), zar q kA 12 (fun j => nI (zSh1 f (zPa fw am i0 e0) i0 i j))] H := hP
      have hD : va_D A [zob h0 6 [.int (nI mg), .ref b0, .ref b1, .int (nI n), .ref b2, .ref b3, .ref b4, .ref b5, .ref b6, .ref b7, .ref b8, .ref b9, .ref b10, .ref b11, .int (nI rg - nI 1), .int (nI rn), .int (nI ro), .int (nI sp), .int (nI gp), .int (nI fx), .ref b12, .ref b13, .ref b14, .ref b15, .ref b16, .ref b17], zar b17 kb17 12 (fun j => nI (fw j)), zar q kA 12 (fun j => nI (zSh1 f (zPa fw am i0 e0) i0 i j))] := hD
      refine lv_iload hx hb dMD_share_37 (lv_at hl 0 rfl) ?_
      refine lv_iload hx hb dMD_share_39 (lv_at hl 3 rfl) ?_
      have t22 := nI_toInt (n := i) (by omega)
      have t23 := nI_toInt (n := e0) (by omega)
      refine lv_icmp_ge (tgt := 100) hx hb dMD_share_41 rfl (fun h => by have h := z_le h; omega) (fun _ => ?_)
      refine z_join (fun v1 : Int32 => v1 = nI (zPa fw am i0 e0 i)) (fun v1 => W p l e ({ frames := 0, cells := 0, slots := 0, locals := 0 }) s m [.ref h0, .int (nI am), .ref q, .int (nI i0), .int (nI e0)].toArray below meth c H locs 0 0 Q (F0 m 74 ls (.int v1 :: []))) (fun v1 hv1 => ?_) (fun J74 => ?_)
      · subst hv1
        refine lv_istore hx hb dMD_share_74 hl (Nat.le_of_ble_eq_true rfl) rfl (fun ls hl => ?_)
        have hl : lv_has ls 9 [(8, .int (nI (zPa fw am i0 e0 i))), (7, .int (nI i)), (6, .int (nI (am - zRs (zPa fw am i0 e0) i0 i))), (5, .int (nI (zRs fw i0 e0))), (4, .int (nI e0)), (3, .int (nI i0)), (2, .ref q), (1, .int (nI am)), (0, .ref h0)] := hl
        refine lv_aload_n hx hb dMD_share_76 rfl (lv_at hl 6 rfl) ?_
        refine lv_iload hx hb dMD_share_77 (lv_at hl 1 rfl) ?_
        refine lv_aload_n hx hb dMD_share_79 rfl (lv_at hl 6 rfl) ?_
        refine lv_iload hx hb dMD_share_80 (lv_at hl 1 rfl) ?_
        refine va_iald hx hb hK hP 2 1 rfl rfl (vp_in_nI (by omega) (by omega)) dMD_share_82 ?_
        refine lv_topi (fun x24 e25 => ?_)
        have e25 : x24 = nI (f i) := e25.trans (by show nI (zSh1 f (zPa fw am i0 e0) i0 i (nI i).toNatClampNeg) = _; rw [nI_clamp (by omega), zSh1_at])
        subst e25
        refine lv_iload hx hb dMD_share_83 (lv_at hl 0 rfl) ?_
        refine lv_iadd hx hb dMD_share_85 ?_
        refine lv_topi (fun x26 e27 => ?_)
        have e27 : x26 = nI ((f i) + (zPa fw am i0 e0 i)) := e27.trans (nI_add _ _)
        subst e27
        refine va_iast hx hb hK hP hD hS 2 1 rfl rfl (vp_in_nI (by omega) (by omega)) dMD_share_86 (fun H locs hP hD hS => ?_)
        have e_u := z_upd (f := zSh1 f (zPa fw am i0 e0) i0 i) (k := i) (v := (f i) + (zPa fw am i0 e0 i)) (by omega)
        have hP : va_P (dC, dI) vwCl [zob h0 6 [.int (nI mg), .ref b0, .ref b1, .int (nI n), .ref b2, .ref b3, .ref b4, .ref b5, .ref b6, .ref b7, .ref b8, .ref b9, .ref b10, .ref b11, .int (nI rg - nI 1), .int (nI rn), .int (nI ro), .int (nI sp), .int (nI gp), .int (nI fx), .ref b12, .ref b13, .ref b14, .ref b15, .ref b16, .ref b17], zar b17 kb17 12 (fun j => nI (fw j)), zar q kA 12 (fun j => nI (va_up (zSh1 f (zPa fw am i0 e0) i0 i) i ((f i) + (zPa fw am i0 e0 i)) j))] H := by rw [← e_u]; exact hP
        have hD : va_D A [zob h0 6 [.int (nI mg), .ref b0, .ref b1, .int (nI n), .ref b2, .ref b3, .ref b4, .ref b5, .ref b6, .ref b7, .ref b8, .ref b9, .ref b10, .ref b11, .int (nI rg - nI 1), .int (nI rn), .int (nI ro), .int (nI sp), .int (nI gp), .int (nI fx), .ref b12, .ref b13, .ref b14, .ref b15, .ref b16, .ref b17], zar b17 kb17 12 (fun j => nI (fw j)), zar q kA 12 (fun j => nI (va_up (zSh1 f (zPa fw am i0 e0) i0 i) i ((f i) + (zPa fw am i0 e0 i)) j))] := by rw [← e_u]; exact hD
        refine lv_iload hx hb dMD_share_87 (lv_at hl 2 rfl) ?_
        refine lv_iload hx hb dMD_share_89 (lv_at hl 0 rfl) ?_
        refine lv_isub hx hb dMD_share_91 ?_
        refine lv_topi (fun x28 e29 => ?_)
        have e29 : x28 = nI (am - zRs (zPa fw am i0 e0) i0 (i + 1)) := e29.trans ((pk_sub (by have h9 := zPa_sum (w := fw) (am := am) hlt (i + 1) (by omega); rw [zRs_s (by omega)] at h9; omega)).trans (congrArg nI (by rw [zRs_s (by omega)]; omega)))
        subst e29
        refine lv_istore hx hb dMD_share_92 hl (Nat.le_of_ble_eq_true rfl) rfl (fun ls hl => ?_)
        have hl : lv_has ls 9 [(6, .int (nI (am - zRs (zPa fw am i0 e0) i0 (i + 1)))), (8, .int (nI (zPa fw am i0 e0 i))), (7, .int (nI i)), (5, .int (nI (zRs fw i0 e0))), (4, .int (nI e0)), (3, .int (nI i0)), (2, .ref q), (1, .int (nI am)), (0, .ref h0)] := hl
        refine lv_iinc (k := 2) (v := nI (i + 1)) hx hb dMD_share_94 hl rfl (by rw [show Int32.ofInt 1 = nI 1 from by decide]; exact nI_add _ _) (Nat.le_of_ble_eq_true rfl) rfl (fun ls hl => ?_)
        have hl : lv_has ls 9 [(7, .int (nI (i + 1))), (6, .int (nI (am - zRs (zPa fw am i0 e0) i0 (i + 1)))), (8, .int (nI (zPa fw am i0 e0 i))), (5, .int (nI (zRs fw i0 e0))), (4, .int (nI e0)), (3, .int (nI i0)), (2, .ref q), (1, .int (nI am)), (0, .ref h0)] := hl
        refine lv_goto (tgt := 37) hx hb dMD_share_97 rfl ?_
        rw [zSh1_s (by omega)] at hP hD
        exact ih () ls H locs ⟨lv_sub hl [0, 1, 3, 4, 5, 6, 7, 8] rfl, by omega, hP, hD, hS⟩
      · refine lv_iload hx hb dMD_share_44 (lv_at hl 2 rfl) ?_
        have t30 := nI_toInt (n := zRs fw i0 e0) (by omega)
        have t31 : (0 : Int32).toInt = 0 := by decide
        refine lv_if_ne (tgt := 58) hx hb dMD_share_46 rfl (fun h_s => ?_) (fun h_s => ?_)
        · have h_s := z_ne h_s
          have h_z : ¬ zRs fw i0 e0 = 0 := by omega
          refine lv_iload_n hx hb dMD_share_58 rfl (lv_at hl 6 rfl) ?_
          refine lv_i2l hx hb dMD_share_59 rfl ?_
          refine lv_aload_n hx hb dMD_share_60 rfl (lv_at hl 7 rfl) ?_
          refine va_get (D := (dC, dI)) (ci := 6) (v := .ref b17) (C := RMD) (T := TMD) (N := 26) hx hb hz in_MD hown hK hP 0 rfl rfl 25 (by decide) (hz _ wd_609) (fun _ h9 => h9) rfl dMD_share_61 ?_
          refine lv_iload hx hb dMD_share_64 (lv_at hl 0 rfl) ?_
          refine va_iald hx hb hK hP 1 0 rfl rfl (vp_in_nI (by omega) (by omega)) dMD_share_66 ?_
          refine lv_topi (fun x33 e34 => ?_)
          have e34 : x33 = nI (fw i) := e34.trans (by show nI (fw (nI i).toNatClampNeg) = _; rw [nI_clamp (by omega)])
          subst e34
          refine lv_i2l hx hb dMD_share_67 rfl ?_
          refine lv_lmul hx hb dMD_share_68 ?_
          refine lv_iload hx hb dMD_share_69 (lv_at hl 2 rfl) ?_
          refine lv_i2l hx hb dMD_share_71 rfl ?_
          refine lv_ldiv hx hb dMD_share_72 (z_lne (nI_ne0 (by omega) (by omega))) ?_
          have hm8 := hfw i
          have hm9 : am * fw i ≤ 20000 * 20000 := Nat.mul_le_mul ham (hfw i)
          refine lv_l2i hx hb dMD_share_73 rfl ?_
          refine lv_topi (fun x35 e36 => ?_)
          have e36 : x35 = nI (zPa fw am i0 e0 i) := e36.trans (by rw [nI_l (by omega), nI_l (by omega), nI_l (by omega), lN_mul, pk_lDiv (by omega) (by omega) (by omega), lN_i, zPa_w h_z])
          subst e36
          exact J74 _ (rfl)
        · have h_s := z_eq h_s
          have h_z : zRs fw i0 e0 = 0 := by omega
          refine lv_iload_n hx hb dMD_share_49 rfl (lv_at hl 6 rfl) ?_
          refine lv_iload hx hb dMD_share_50 (lv_at hl 3 rfl) ?_
          refine lv_iload_n hx hb dMD_share_52 rfl (lv_at hl 4 rfl) ?_
          refine lv_isub hx hb dMD_share_53 ?_
          refine lv_topi (fun x37 e38 => ?_)
          have e38 : x37 = nI (e0 - i0) := e38.trans (pk_sub (by omega))
          subst e38
          refine lv_idiv hx hb dMD_share_54 (nI_ne0 (by omega) (by omega)) ?_
          refine lv_topi (fun x39 e40 => ?_)
          have e40 : x39 = nI (zPa fw am i0 e0 i) := e40.trans (by rw [pk_div (by omega) (by omega) (by omega), zPa_z h_z])
          subst e40
          refine lv_goto (tgt := 74) hx hb dMD_share_55 rfl ?_
          exact J74 _ (rfl)
  · intro i hi ih
    intro x9 ls hI
    obtain ⟨hl, hxI⟩ := hI
    have hl : lv_has ls 9 [(6, .int (nI i)), (5, .int (nI (zRs fw i0 i))), (4, .int (nI e0)), (3, .int (nI i0)), (2, .ref q), (1, .int (nI am)), (0, .ref h0)] := hl
    refine lv_iload hx hb dMD_share_6 (lv_at hl 0 rfl) ?_
    refine lv_iload hx hb dMD_share_8 (lv_at hl 2 rfl) ?_
    have t41 := nI_toInt (n := i) (by omega)
    have t42 := nI_toInt (n := e0) (by omega)
    refine lv_icmp_ge (tgt := 31) hx hb dMD_share_10 rfl (fun h => by have h := z_le h; omega) (fun _ => ?_)
    refine lv_iload hx hb dMD_share_13 (lv_at hl 1 rfl) ?_
    refine lv_aload_n hx hb dMD_share_15 rfl (lv_at hl 6 rfl) ?_
    refine va_get (D := (dC, dI)) (ci := 6) (v := .ref b17) (C := RMD) (T := TMD) (N := 26) hx hb hz in_MD hown hK hP 0 rfl rfl 25 (by decide) (hz _ wd_609) (fun _ h9 => h9) rfl dMD_share_16 ?_
    refine lv_iload hx hb dMD_share_19 (lv_at hl 0 rfl) ?_
    refine va_iald hx hb hK hP 1 0 rfl rfl (vp_in_nI (by omega) (by omega)) dMD_share_21 ?_
    refine lv_topi (fun x43 e44 => ?_)
    have e44 : x43 = nI (fw i) := e44.trans (by show nI (fw (nI i).toNatClampNeg) = _; rw [nI_clamp (by omega)])
    subst e44
    refine lv_iadd hx hb dMD_share_22 ?_
    refine lv_topi (fun x45 e46 => ?_)
    have e46 : x45 = nI (zRs fw i0 (i + 1)) := e46.trans (by rw [zRs_s (by omega)]; exact nI_add _ _)
    subst e46
    refine lv_istore hx hb dMD_share_23 hl (Nat.le_of_ble_eq_true rfl) rfl (fun ls hl => ?_)
    have hl : lv_has ls 9 [(5, .int (nI (zRs fw i0 (i + 1)))), (6, .int (nI i)), (4, .int (nI e0)), (3, .int (nI i0)), (2, .ref q), (1, .int (nI am)), (0, .ref h0)] := hl
    refine lv_iinc (k := 1) (v := nI (i + 1)) hx hb dMD_share_25 hl rfl (by rw [show Int32.ofInt 1 = nI 1 from by decide]; exact nI_add _ _) (Nat.le_of_ble_eq_true rfl) rfl (fun ls hl => ?_)
    have hl : lv_has ls 9 [(6, .int (nI (i + 1))), (5, .int (nI (zRs fw i0 (i + 1)))), (4, .int (nI e0)), (3, .int (nI i0)), (2, .ref q), (1, .int (nI am)), (0, .ref h0)] := hl
    refine lv_goto (tgt := 6) hx hb dMD_share_28 rfl ?_
    exact ih () ls ⟨lv_sub hl [0, 1, 2, 3, 4, 5, 6] rfl, by omega⟩
