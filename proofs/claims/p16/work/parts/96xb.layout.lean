set_option maxHeartbeats 4000000 in
set_option maxRecDepth 100000 in
theorem x_MD_layout (l : Launch) (dC : Nat → ClassId) (dI : Nat → Nat → Nat) (h0 : Nat) (b0 : Nat) (b1 : Nat) (b2 : Nat) (b3 : Nat) (b4 : Nat) (b5 : Nat) (b6 : Nat) (b7 : Nat) (b8 : Nat) (b9 : Nat) (b10 : Nat) (b11 : Nat) (b12 : Nat) (b13 : Nat) (b14 : Nat) (b15 : Nat) (b16 : Nat) (b17 : Nat) (kb0 : ClassId) (kb1 : ClassId) (kb2 : ClassId) (kb3 : ClassId) (kb4 : ClassId) (kb5 : ClassId) (kb6 : ClassId) (kb7 : ClassId) (kb8 : ClassId) (kb9 : ClassId) (kb10 : ClassId) (kb11 : ClassId) (mg : Nat) (n : Nat) (rg : Nat) (rn : Nat) (ro : Nat) (sp : Nat) (gp : Nat) (fx : Nat) (mm : Nat → Nat → Nat) (a : Int32) (b : Int32) (f1 : Nat) (hm : ∀ a k, mm a k ≤ 1000) (hn : n ≤ 40) (hg : 1 ≤ mg ∧ mg ≤ 8 ∧ rg ≤ 8 ∧ rn ≤ 1000 ∧ ro ≤ 1000) (hG : ∀ k, k < n → mm 6 k < 8) (hE : ∀ k, k < n → mm 3 k ≤ zEn mm (mm 6 k) n) (hf : f1 ≤ 1) : zw_Mi (S := (Nat) × (Nat) × (Nat)) l yMD_layout wMD_layout ({ frames := 0, cells := 0, slots := 0, locals := 0 }) [.ref h0, .int a, .int b, .int (nI f1)] (dC, dI) vwCl [zob h0 6 [.int (nI mg), .ref b0, .ref b1, .int (nI n), .ref b2, .ref b3, .ref b4, .ref b5, .ref b6, .ref b7, .ref b8, .ref b9, .ref b10, .ref b11, .int (nI rg - nI 1), .int (nI rn), .int (nI ro), .int (nI sp), .int (nI gp), .int (nI fx), .ref b12, .ref b13, .ref b14, .ref b15, .ref b16, .ref b17], zar b0 kb0 8 (fun j => nI (mm 0 j)), zar b1 kb1 8 (fun j => nI (mm 1 j)), zar b2 kb2 40 (fun j => nI (mm 2 j)), zar b3 kb3 40 (fun j => nI (mm 3 j)), zar b4 kb4 40 (fun j => nI (mm 4 j)), zar b5 kb5 40 (fun j => nI (mm 5 j)), zar b6 kb6 40 (fun j => nI (mm 6 j)), zar b7 kb7 40 (fun j => nI (mm 7 j)), zar b8 kb8 40 (fun j => nI (mm 8 j)), zar b9 kb9 40 (fun j => nI (mm 9 j)), zar b10 kb10 40 (fun j => nI (mm 10 j)), zar b11 kb11 40 (fun j => nI (mm 11 j))] [(kb0, .int), (kb1, .int), (kb2, .int), (kb3, .int), (kb4, .int), (kb5, .int), (kb6, .int), (kb7, .int), (kb8, .int), (kb9, .int), (kb10, .int), (kb11, .int)] (fun _ _ => True) (fun r u => match u with | (sp2, gp2, fx2) => (¬ ((0 ≤ a.toInt ∧ a.toInt ≤ 10000) ∧ (0 ≤ b.toInt ∧ b.toInt ≤ 20)) ∧ r = 0 ∧ sp2 = sp ∧ gp2 = gp ∧ fx2 = fx) ∨ (sp2 ≤ 10000 ∧ gp2 ≤ 20 ∧ a = nI sp2 ∧ b = nI gp2 ∧ fx2 = f1 ∧ r = 1)) (fun u => match u with | (sp2, gp2, fx2) => [zob h0 6 [.int (nI mg), .ref b0, .ref b1, .int (nI n), .ref b2, .ref b3, .ref b4, .ref b5, .ref b6, .ref b7, .ref b8, .ref b9, .ref b10, .ref b11, .int (nI rg - nI 1), .int (nI rn), .int (nI ro), .int (nI sp2), .int (nI gp2), .int (nI fx2), .ref b12, .ref b13, .ref b14, .ref b15, .ref b16, .ref b17], zar b0 kb0 8 (fun j => nI (mm 0 j)), zar b1 kb1 8 (fun j => nI (mm 1 j)), zar b2 kb2 40 (fun j => nI (mm 2 j)), zar b3 kb3 40 (fun j => nI (mm 3 j)), zar b4 kb4 40 (fun j => nI (mm 4 j)), zar b5 kb5 40 (fun j => nI (mm 5 j)), zar b6 kb6 40 (fun j => nI (mm 6 j)), zar b7 kb7 40 (fun j => nI (mm 7 j)), zar b8 kb8 40 (fun j => nI (mm 8 j)), zar b9 kb9 40 (fun j => nI (mm 9 j)), zar b10 kb10 40 (fun j => nI (mm 10 j)), zar b11 kb11 40 (fun j => nI (mm 11 j))]) (fun u => match u with | (sp2, gp2, fx2) => []) 0 0 := by
  refine zw_headi (cc := cMD_layout) (maxL := 4) (ret := (some .boolean)) (by decide +kernel) rfl (Nat.le_of_ble_eq_true rfl) ?_
  intro p e s m below meth c ls A F hA hP hK hD hS hX hl
  obtain ⟨hx, hb, hml, hr, hlocks, hown, hts⟩ := F
  have hown : s.vm.findClass "SpannedCellsModel" = some m.cls := hown
  have hz : ∀ w9 ∈ zT, w9.before [.ref h0, .int a, .int b, .int (nI f1)].toArray s = true := fun w9 h => hts w9 (List.mem_cons_of_mem _ h)
  have hl : lv_has ls 4 [(0, .ref h0), (1, .int a), (2, .int b), (3, .int (nI f1))] := hl
  refine z_q (fun Q hQ => ?_)
  refine lv_iload_n hx hb dMD_layout_0 rfl (lv_at hl 1 rfl) ?_
  have t1 : (0 : Int32).toInt = 0 := by decide
  refine lv_if_lt (tgt := 21) hx hb dMD_layout_1 rfl (fun h2 => ?_) (fun h2 => ?_)
  · have h2 := z_lt h2
    refine lv_iconst (v := nI 0) hx hb dMD_layout_21 (by decide) ?_
    subst hQ
    exact zw_zret (D := (dC, dI)) (cl := vwCl) (A := A) (sp, gp, fx) hx hb hr hlocks (Or.inl rfl) (Or.inl ⟨by omega, rfl, rfl, rfl, rfl⟩) (hP.sub [0, 1, 2, 3, 4, 5, 6, 7, 8, 9, 10, 11, 12] rfl) (hK.sub [] rfl) (hD.sub [0, 1, 2, 3, 4, 5, 6, 7, 8, 9, 10, 11, 12] (by decide) rfl) hS dMD_layout_22
  · have h2 := z_nlt h2
    refine lv_iload_n hx hb dMD_layout_4 rfl (lv_at hl 1 rfl) ?_
    refine lv_sipush (v := nI 10000) hx hb dMD_layout_5 (by decide) ?_
    have t3 := nI_toInt (n := 10000) (by omega)
    refine lv_icmp_gt (tgt := 21) hx hb dMD_layout_8 rfl (fun h4 => ?_) (fun h4 => ?_)
    · have h4 := z_lt h4
      refine lv_iconst (v := nI 0) hx hb dMD_layout_21 (by decide) ?_
      subst hQ
      exact zw_zret (D := (dC, dI)) (cl := vwCl) (A := A) (sp, gp, fx) hx hb hr hlocks (Or.inl rfl) (Or.inl ⟨by omega, rfl, rfl, rfl, rfl⟩) (hP.sub [0, 1, 2, 3, 4, 5, 6, 7, 8, 9, 10, 11, 12] rfl) (hK.sub [] rfl) (hD.sub [0, 1, 2, 3, 4, 5, 6, 7, 8, 9, 10, 11, 12] (by decide) rfl) hS dMD_layout_22
    · have h4 := z_nlt h4
      refine lv_iload_n hx hb dMD_layout_11 rfl (lv_at hl 2 rfl) ?_
      have t5 : (0 : Int32).toInt = 0 := by decide
      refine lv_if_lt (tgt := 21) hx hb dMD_layout_12 rfl (fun h6 => ?_) (fun h6 => ?_)
      · have h6 := z_lt h6
        refine lv_iconst (v := nI 0) hx hb dMD_layout_21 (by decide) ?_
        subst hQ
        exact zw_zret (D := (dC, dI)) (cl := vwCl) (A := A) (sp, gp, fx) hx hb hr hlocks (Or.inl rfl) (Or.inl ⟨by omega, rfl, rfl, rfl, rfl⟩) (hP.sub [0, 1, 2, 3, 4, 5, 6, 7, 8, 9, 10, 11, 12] rfl) (hK.sub [] rfl) (hD.sub [0, 1, 2, 3, 4, 5, 6, 7, 8, 9, 10, 11, 12] (by decide) rfl) hS dMD_layout_22
      · have h6 := z_nlt h6
        refine lv_iload_n hx hb dMD_layout_15 rfl (lv_at hl 2 rfl) ?_
        refine lv_bipush (v := nI 20) hx hb dMD_layout_16 (by decide) ?_
        have t7 := nI_toInt (n := 20) (by omega)
        refine lv_icmp_le (tgt := 23) hx hb dMD_layout_18 rfl (fun h_w => ?_) (fun h_w => ?_)
        · have h_w := z_le h_w
          obtain ⟨a1, ha1, rfl⟩ := z_ofIn (c := a) (n := 10001) (by omega) (by omega) (by omega)
          obtain ⟨b_v, hb9, rfl⟩ := z_ofIn (c := b) (n := 21) (by omega) (by omega) (by omega)
          refine lv_aload_n hx hb dMD_layout_23 rfl (lv_at hl 0 rfl) ?_
          refine lv_iload_n hx hb dMD_layout_24 rfl (lv_at hl 1 rfl) ?_
          refine va_put (D := (dC, dI)) (ci := 6) (v := .int (nI a1)) (ty := .int) (C := RMD) (T := TMD) (N := 26) hx hb hz in_MD tyMD tokMD nokMD hown hK hP hD hS 0 rfl rfl 17 (by decide) (hz _ wd_601) (fun _ h9 => h9) rfl (by decide +kernel) rfl rfl (Nat.le_of_ble_eq_true rfl) dMD_layout_25 (fun H locs hP hD hS => ?_)
          have hP : va_P (dC, dI) vwCl [zob h0 6 [.int (nI mg), .ref b0, .ref b1, .int (nI n), .ref b2, .ref b3, .ref b4, .ref b5, .ref b6, .ref b7, .ref b8, .ref b9, .ref b10, .ref b11, .int (nI rg - nI 1), .int (nI rn), .int (nI ro), .int (nI a1), .int (nI gp), .int (nI fx), .ref b12, .ref b13, .ref b14, .ref b15, .ref b16, .ref b17], zar b0 kb0 8 (fun j => nI (mm 0 j)), zar b1 kb1 8 (fun j => nI (mm 1 j)), zar b2 kb2 40 (fun j => nI (mm 2 j)), zar b3 kb3 40 (fun j => nI (mm 3 j)), zar b4 kb4 40 (fun j => nI (mm 4 j)), zar b5 kb5 40 (fun j => nI (mm 5 j)), zar b6 kb6 40 (fun j => nI (mm 6 j)), zar b7 kb7 40 (fun j => nI (mm 7 j)), zar b8 kb8 40 (fun j => nI (mm 8 j)), zar b9 kb9 40 (fun j => nI (mm 9 j)), zar b10 kb10 40 (fun j => nI (mm 10 j)), zar b11 kb11 40 (fun j => nI (mm 11 j))] H := hP
          have hD : va_D A [zob h0 6 [.int (nI mg), .ref b0, .ref b1, .int (nI n), .ref b2, .ref b3, .ref b4, .ref b5, .ref b6, .ref b7, .ref b8, .ref b9, .ref b10, .ref b11, .int (nI rg - nI 1), .int (nI rn), .int (nI ro), .int (nI a1), .int (nI gp), .int (nI fx), .ref b12, .ref b13, .ref b14, .ref b15, .ref b16, .ref b17], zar b0 kb0 8 (fun j => nI (mm 0 j)), zar b1 kb1 8 (fun j => nI (mm 1 j)), zar b2 kb2 40 (fun j => nI (mm 2 j)), zar b3 kb3 40 (fun j => nI (mm 3 j)), zar b4 kb4 40 (fun j => nI (mm 4 j)), zar b5 kb5 40 (fun j => nI (mm 5 j)), zar b6 kb6 40 (fun j => nI (mm 6 j)), zar b7 kb7 40 (fun j => nI (mm 7 j)), zar b8 kb8 40 (fun j => nI (mm 8 j)), zar b9 kb9 40 (fun j => nI (mm 9 j)), zar b10 kb10 40 (fun j => nI (mm 10 j)), zar b11 kb11 40 (fun j => nI (mm 11 j))] := hD
          refine lv_aload_n hx hb dMD_layout_28 rfl (lv_at hl 0 rfl) ?_
          refine lv_iload_n hx hb dMD_layout_29 rfl (lv_at hl 2 rfl) ?_
          refine va_put (D := (dC, dI)) (ci := 6) (v := .int (nI b_v)) (ty := .int) (C := RMD) (T := TMD) (N := 26) hx hb hz in_MD tyMD tokMD nokMD hown hK hP hD hS 0 rfl rfl 18 (by decide) (hz _ wd_602) (fun _ h9 => h9) rfl (by decide +kernel) rfl rfl (Nat.le_of_ble_eq_true rfl) dMD_layout_30 (fun H locs hP hD hS => ?_)
          have hP : va_P (dC, dI) vwCl [zob h0 6 [.int (nI mg), .ref b0, .ref b1, .int (nI n), .ref b2, .ref b3, .ref b4, .ref b5, .ref b6, .ref b7, .ref b8, .ref b9, .ref b10, .ref b11, .int (nI rg - nI 1), .int (nI rn), .int (nI ro), .int (nI a1), .int (nI b_v), .int (nI fx), .ref b12, .ref b13, .ref b14, .ref b15, .ref b16, .ref b17], zar b0 kb0 8 (fun j => nI (mm 0 j)), zar b1 kb1 8 (fun j => nI (mm 1 j)), zar b2 kb2 40 (fun j => nI (mm 2 j)), zar b3 kb3 40 (fun j => nI (mm 3 j)), zar b4 kb4 40 (fun j => nI (mm 4 j)), zar b5 kb5 40 (fun j => nI (mm 5 j)), zar b6 kb6 40 (fun j => nI (mm 6 j)), zar b7 kb7 40 (fun j => nI (mm 7 j)), zar b8 kb8 40 (fun j => nI (mm 8 j)), zar b9 kb9 40 (fun j => nI (mm 9 j)), zar b10 kb10 40 (fun j => nI (mm 10 j)), zar b11 kb11 40 (fun j => nI (mm 11 j))] H := hP
          have hD : va_D A [zob h0 6 [.int (nI mg), .ref b0, .ref b1, .int (nI n), .ref b2, .ref b3, .ref b4, .ref b5, .ref b6, .ref b7, .ref b8, .ref b9, .ref b10, .ref b11, .int (nI rg - nI 1), .int (nI rn), .int (nI ro), .int (nI a1), .int (nI b_v), .int (nI fx), .ref b12, .ref b13, .ref b14, .ref b15, .ref b16, .ref b17], zar b0 kb0 8 (fun j => nI (mm 0 j)), zar b1 kb1 8 (fun j => nI (mm 1 j)), zar b2 kb2 40 (fun j => nI (mm 2 j)), zar b3 kb3 40 (fun j => nI (mm 3 j)), zar b4 kb4 40 (fun j => nI (mm 4 j)), zar b5 kb5 40 (fun j => nI (mm 5 j)), zar b6 kb6 40 (fun j => nI (mm 6 j)), zar b7 kb7 40 (fun j => nI (mm 7 j)), zar b8 kb8 40 (fun j => nI (mm 8 j)), zar b9 kb9 40 (fun j => nI (mm 9 j)), zar b10 kb10 40 (fun j => nI (mm 10 j)), zar b11 kb11 40 (fun j => nI (mm 11 j))] := hD
          refine lv_aload_n hx hb dMD_layout_33 rfl (lv_at hl 0 rfl) ?_
          refine lv_iload_n hx hb dMD_layout_34 rfl (lv_at hl 3 rfl) ?_
          refine va_put (D := (dC, dI)) (ci := 6) (v := .int (nI f1)) (ty := .boolean) (C := RMD) (T := TMD) (N := 26) hx hb hz in_MD tyMD tokMD nokMD hown hK hP hD hS 0 rfl rfl 19 (by decide) (hz _ wd_603) (fun _ h9 => h9) rfl (by decide +kernel) (by rcases z_f01 hf with h | h <;> (rw [h]; rfl)) (by rcases z_f01 hf with h | h <;> (rw [h]; rfl)) (Nat.le_of_ble_eq_true rfl) dMD_layout_35 (fun H locs hP hD hS => ?_)
          have hP : va_P (dC, dI) vwCl [zob h0 6 [.int (nI mg), .ref b0, .ref b1, .int (nI n), .ref b2, .ref b3, .ref b4, .ref b5, .ref b6, .ref b7, .ref b8, .ref b9, .ref b10, .ref b11, .int (nI rg - nI 1), .int (nI rn), .int (nI ro), .int (nI a1), .int (nI b_v), .int (nI f1), .ref b12, .ref b13, .ref b14, .ref b15, .ref b16, .ref b17], zar b0 kb0 8 (fun j => nI (mm 0 j)), zar b1 kb1 8 (fun j => nI (mm 1 j)), zar b2 kb2 40 (fun j => nI (mm 2 j)), zar b3 kb3 40 (fun j => nI (mm 3 j)), zar b4 kb4 40 (fun j => nI (mm 4 j)), zar b5 kb5 40 (fun j => nI (mm 5 j)), zar b6 kb6 40 (fun j => nI (mm 6 j)), zar b7 kb7 40 (fun j => nI (mm 7 j)), zar b8 kb8 40 (fun j => nI (mm 8 j)), zar b9 kb9 40 (fun j => nI (mm 9 j)), zar b10 kb10 40 (fun j => nI (mm 10 j)), zar b11 kb11 40 (fun j => nI (mm 11 j))] H := hP
          have hD : va_D A [zob h0 6 [.int (nI mg), .ref b0, .ref b1, .int (nI n), .ref b2, .ref b3, .ref b4, .ref b5, .ref b6, .ref b7, .ref b8, .ref b9, .ref b10, .ref b11, .int (nI rg - nI 1), .int (nI rn), .int (nI ro), .int (nI a1), .int (nI b_v), .int (nI f1), .ref b12, .ref b13, .ref b14, .ref b15, .ref b16, .ref b17], zar b0 kb0 8 (fun j => nI (mm 0 j)), zar b1 kb1 8 (fun j => nI (mm 1 j)), zar b2 kb2 40 (fun j => nI (mm 2 j)), zar b3 kb3 40 (fun j => nI (mm 3 j)), zar b4 kb4 40 (fun j => nI (mm 4 j)), zar b5 kb5 40 (fun j => nI (mm 5 j)), zar b6 kb6 40 (fun j => nI (mm 6 j)), zar b7 kb7 40 (fun j => nI (mm 7 j)), zar b8 kb8 40 (fun j => nI (mm 8 j)), zar b9 kb9 40 (fun j => nI (mm 9 j)), zar b10 kb10 40 (fun j => nI (mm 10 j)), zar b11 kb11 40 (fun j => nI (mm 11 j))] := hD
          refine lv_iconst (v := nI 1) hx hb dMD_layout_38 (by decide) ?_
          subst hQ
          exact zw_zret (D := (dC, dI)) (cl := vwCl) (A := A) (a1, b_v, f1) hx hb hr hlocks (Or.inr rfl) (Or.inr ⟨by omega, by omega, rfl, rfl, rfl, rfl⟩) (hP.sub [0, 1, 2, 3, 4, 5, 6, 7, 8, 9, 10, 11, 12] rfl) (hK.sub [] rfl) (hD.sub [0, 1, 2, 3, 4, 5, 6, 7, 8, 9, 10, 11, 12] (by decide) rfl) hS dMD_layout_39
        · have h_w := z_nle h_w
          refine lv_iconst (v := nI 0) hx hb dMD_layout_21 (by decide) ?_
          subst hQ
          exact zw_zret (D := (dC, dI)) (cl := vwCl) (A := A) (sp, gp, fx) hx hb hr hlocks (Or.inl rfl) (Or.inl ⟨by omega, rfl, rfl, rfl, rfl⟩) (hP.sub [0, 1, 2, 3, 4, 5, 6, 7, 8, 9, 10, 11, 12] rfl) (hK.sub [] rfl) (hD.sub [0, 1, 2, 3, 4, 5, 6, 7, 8, 9, 10, 11, 12] (by decide) rfl) hS dMD_layout_22

set_option maxHeartbeats 4000000 in
set_option maxRecDepth 100000 in
theorem x_SC_layout (l : Launch) (dC : Nat → ClassId) (dI : Nat → Nat → Nat) (T : va_W) (h0 : Nat) (g : Nat) (wd : Nat) (hh : Nat) (sp : Nat) (gp : Nat) (fx : Nat) (a : Int32) (b : Int32) (f1 : Nat) (hf : f1 ≤ 1) : zw_Mi (S := (Nat) × (Nat) × (Nat)) l ySC_layout wSC_layout ({ frames := 1, cells := 0, slots := 0, locals := 22 }) [.ref h0, .int a, .int b, .int (nI f1)] (dC, dI) vwCl ([zob h0 0 [.ref g, .ref wd, .ref hh, .int (nI sp), .int (nI gp), .int (nI fx)]] ++ T) [] (fun _ _ => True) (fun r u => match u with | (sp2, gp2, fx2) => (¬ ((0 ≤ a.toInt ∧ a.toInt ≤ 10000) ∧ (0 ≤ b.toInt ∧ b.toInt ≤ 20)) ∧ r = 0 ∧ sp2 = sp ∧ gp2 = gp ∧ fx2 = fx) ∨ (sp2 ≤ 10000 ∧ gp2 ≤ 20 ∧ a = nI sp2 ∧ b = nI gp2 ∧ fx2 = f1 ∧ r = 1)) (fun u => match u with | (sp2, gp2, fx2) => ([zob h0 0 [.ref g, .ref wd, .ref hh, .int (nI sp2), .int (nI gp2), .int (nI fx2)]] ++ T)) (fun u => match u with | (sp2, gp2, fx2) => []) 0 0 := by
  refine zw_headi (cc := cSC_layout) (maxL := 4) (ret := (some .boolean)) (by decide +kernel) rfl (Nat.le_of_ble_eq_true rfl) ?_
  intro p e s m below meth c ls A F hA hP hK hD hS hX hl
  obtain ⟨hx, hb, hml, hr, hlocks, hown, hts⟩ := F
  have hown : s.vm.findClass "SpannedCells" = some m.cls := hown
  have hz : ∀ w9 ∈ zT, w9.before [.ref h0, .int a, .int b, .int (nI f1)].toArray s = true := fun w9 h => hts w9 (List.mem_cons_of_mem _ h)
  have hl : lv_has ls 4 [(0, .ref h0), (1, .int a), (2, .int b), (3, .int (nI f1))] := hl
  refine z_q (fun Q hQ => ?_)
  refine lv_iload_n hx hb dSC_layout_0 rfl (lv_at hl 1 rfl) ?_
  refine lv_iconst (v := nI 0) hx hb dSC_layout_1 (by decide) ?_
  refine lv_sipush (v := nI 10000) hx hb dSC_layout_2 (by decide) ?_
  refine vp_callSi (W.runS (As := [.int a, .int (nI 0), .int (nI 10000)]) (rest := []) ⟨hx, hb, hml, hown, hz⟩ (f_SC_within l dC dI a (nI 0) (nI 10000) ) (va_cwS 3 hz (z_gS wd_219 wd_220 wd_29 wd_221) rfl rfl rfl (by decide +kernel) ⟨Nat.le_of_ble_eq_true rfl, Nat.le_of_ble_eq_true rfl⟩) (zr_preS hK (hP.sub [] rfl) [] rfl z_true (fun _ _ _ => trivial)) rfl rfl hl.1 rfl (lv_room (Nat.le_of_ble_eq_true rfl)) dSC_layout_5 ⟨Nat.le_of_ble_eq_true rfl, Nat.le_of_ble_eq_true rfl⟩) (fun ra h_ra => ?_)
  have h_ra : z_yn ra ((nI 0).toInt ≤ a.toInt ∧ a.toInt ≤ (nI 10000).toInt) := h_ra
  have t_0 := nI_toInt (n := 0) (by omega)
  have t_1 := nI_toInt (n := 10000) (by omega)
  refine lv_if_eq (tgt := 21) hx hb dSC_layout_8 rfl (fun h_b => ?_) (fun h_b => ?_)
  · have h_b := z_yF h_ra h_b
    refine lv_iconst (v := nI 0) hx hb dSC_layout_21 (by decide) ?_
    subst hQ
    exact zw_zret (D := (dC, dI)) (cl := vwCl) (A := A) (sp, gp, fx) hx hb hr hlocks (Or.inl rfl) (Or.inl ⟨by omega, rfl, rfl, rfl, rfl⟩) (zt_sub hP [0] rfl) (hK.sub [] rfl) (zt_subD hD [0] (by decide) rfl) hS dSC_layout_22
  · have h_b := z_yT h_ra h_b
    have h_a := h_b
    refine lv_iload_n hx hb dSC_layout_11 rfl (lv_at hl 2 rfl) ?_
    refine lv_iconst (v := nI 0) hx hb dSC_layout_12 (by decide) ?_
    refine lv_bipush (v := nI 20) hx hb dSC_layout_13 (by decide) ?_
    refine vp_callSi (W.runS (As := [.int b, .int (nI 0), .int (nI 20)]) (rest := []) ⟨hx, hb, hml, hown, hz⟩ (f_SC_within l dC dI b (nI 0) (nI 20) ) (va_cwS 3 hz (z_gS wd_219 wd_220 wd_29 wd_221) rfl rfl rfl (by decide +kernel) ⟨Nat.le_of_ble_eq_true rfl, Nat.le_of_ble_eq_true rfl⟩) (zr_preS hK (hP.sub [] rfl) [] rfl z_true (fun _ _ _ => trivial)) rfl rfl hl.1 rfl (lv_room (Nat.le_of_ble_eq_true rfl)) dSC_layout_15 ⟨Nat.le_of_ble_eq_true rfl, Nat.le_of_ble_eq_true rfl⟩) (fun rb h_rb => ?_)
    have h_rb : z_yn rb ((nI 0).toInt ≤ b.toInt ∧ b.toInt ≤ (nI 20).toInt) := h_rb
    have t_2 := nI_toInt (n := 20) (by omega)
    refine lv_if_ne (tgt := 23) hx hb dSC_layout_18 rfl (fun h_b => ?_) (fun h_b => ?_)
    · have h_b := z_yT h_rb h_b
      obtain ⟨a1, ha1, rfl⟩ := z_ofIn (c := a) (n := 10001) (by omega) (by omega) (by omega)
      obtain ⟨b_v, hb9, rfl⟩ := z_ofIn (c := b) (n := 21) (by omega) (by omega) (by omega)
      refine lv_aload_n hx hb dSC_layout_23 rfl (lv_at hl 0 rfl) ?_
      refine lv_iload_n hx hb dSC_layout_24 rfl (lv_at hl 1 rfl) ?_
      refine va_put (D := (dC, dI)) (ci := 0) (v := .int (nI a1)) (ty := .int) (C := RSC) (T := TSC) (N := 6) hx hb hz in_SC tySC tokSC nokSC hown hK hP hD hS 0 rfl rfl 3 (by decide) (hz _ wd_153) (fun _ h9 => h9) rfl (by decide +kernel) rfl rfl (Nat.le_of_ble_eq_true rfl) dSC_layout_25 (fun H locs hP hD hS => ?_)
      have hP : va_P (dC, dI) vwCl ([zob h0 0 [.ref g, .ref wd, .ref hh, .int (nI a1), .int (nI gp), .int (nI fx)]] ++ T) H := hP
      have hD : va_D A ([zob h0 0 [.ref g, .ref wd, .ref hh, .int (nI a1), .int (nI gp), .int (nI fx)]] ++ T) := hD
      refine lv_aload_n hx hb dSC_layout_28 rfl (lv_at hl 0 rfl) ?_
      refine lv_iload_n hx hb dSC_layout_29 rfl (lv_at hl 2 rfl) ?_
      refine va_put (D := (dC, dI)) (ci := 0) (v := .int (nI b_v)) (ty := .int) (C := RSC) (T := TSC) (N := 6) hx hb hz in_SC tySC tokSC nokSC hown hK hP hD hS 0 rfl rfl 4 (by decide) (hz _ wd_154) (fun _ h9 => h9) rfl (by decide +kernel) rfl rfl (Nat.le_of_ble_eq_true rfl) dSC_layout_30 (fun H locs hP hD hS => ?_)
      have hP : va_P (dC, dI) vwCl ([zob h0 0 [.ref g, .ref wd, .ref hh, .int (nI a1), .int (nI b_v), .int (nI fx)]] ++ T) H := hP
      have hD : va_D A ([zob h0 0 [.ref g, .ref wd, .ref hh, .int (nI a1), .int (nI b_v), .int (nI fx)]] ++ T) := hD
      refine lv_aload_n hx hb dSC_layout_33 rfl (lv_at hl 0 rfl) ?_
      refine lv_iload_n hx hb dSC_layout_34 rfl (lv_at hl 3 rfl) ?_
      refine va_put (D := (dC, dI)) (ci := 0) (v := .int (nI f1)) (ty := .boolean) (C := RSC) (T := TSC) (N := 6) hx hb hz in_SC tySC tokSC nokSC hown hK hP hD hS 0 rfl rfl 5 (by decide) (hz _ wd_155) (fun _ h9 => h9) rfl (by decide +kernel) (by rcases z_f01 hf with h | h <;> (rw [h]; rfl)) (by rcases z_f01 hf with h | h <;> (rw [h]; rfl)) (Nat.le_of_ble_eq_true rfl) dSC_layout_35 (fun H locs hP hD hS => ?_)
      have hP : va_P (dC, dI) vwCl ([zob h0 0 [.ref g, .ref wd, .ref hh, .int (nI a1), .int (nI b_v), .int (nI f1)]] ++ T) H := hP
      have hD : va_D A ([zob h0 0 [.ref g, .ref wd, .ref hh, .int (nI a1), .int (nI b_v), .int (nI f1)]] ++ T) := hD
      refine lv_iconst (v := nI 1) hx hb dSC_layout_38 (by decide) ?_
      subst hQ
      exact zw_zret (D := (dC, dI)) (cl := vwCl) (A := A) (a1, b_v, f1) hx hb hr hlocks (Or.inr rfl) (Or.inr ⟨by omega, by omega, rfl, rfl, rfl, rfl⟩) (zt_sub hP [0] rfl) (hK.sub [] rfl) (zt_subD hD [0] (by decide) rfl) hS dSC_layout_39
    · have h_b := z_yF h_rb h_b
      refine lv_iconst (v := nI 0) hx hb dSC_layout_21 (by decide) ?_
      subst hQ
      exact zw_zret (D := (dC, dI)) (cl := vwCl) (A := A) (sp, gp, fx) hx hb hr hlocks (Or.inl rfl) (Or.inl ⟨by omega, rfl, rfl, rfl, rfl⟩) (zt_sub hP [0] rfl) (hK.sub [] rfl) (zt_subD hD [0] (by decide) rfl) hS dSC_layout_22

set_option maxHeartbeats 4000000 in
set_option maxRecDepth 100000 in
theorem xe_HE_measure (l : Launch) (dC : Nat → ClassId) (dI : Nat → Nat → Nat) (T : va_W) (hh : Nat) (ln : Nat) (pn : Nat) (kn : ClassId) (gn : Nat → Int32) (g : Nat) (al : Nat) (gr : Nat) (gs : Nat) (bg : Nat) (re : Nat) (t : Nat) (mo : Int32) (gp : Nat) (hg : gr ≤ 1000 ∧ gs ≤ 1000 ∧ bg ≤ 1000 ∧ re ≤ 1000) : zw_Mv (S := Unit) l yHE_measure wHE_measure ({ frames := 2, cells := 0, slots := 0, locals := 43 }) [.ref hh, .ref g, .int (nI gp)] (dC, dI) vwCl ([zob hh 5 [.ref ln], zob ln 4 [.ref pn], zar pn kn 12 gn, zob g 1 [.ref al, .int (nI gr), .int (nI gs), .int (nI bg), .int (nI re), .int (nI 0)], zob al 2 [.ref t, .int (nI 0), .int mo]] ++ T) [(kn, .int)] (fun _ _ => True) (fun (_ : Unit) => True) (fun (_ : Unit) => ([zob hh 5 [.ref ln], zob ln 4 [.ref pn], zar pn kn 12 (fun j => nI (zO j)), zob g 1 [.ref al, .int (nI gr), .int (nI gs), .int (nI bg), .int (nI re), .int (nI 0)], zob al 2 [.ref t, .int (nI 0), .int mo]] ++ T)) (fun (_ : Unit) => []) 0 0 := by
  refine zw_headv (cc := cHE_measure) (maxL := 6) (ret := none) (by decide +kernel) rfl (Nat.le_of_ble_eq_true rfl) ?_
  intro p e s m below meth c ls A F hnm hA hP hK hD hS hX hl
  obtain ⟨hx, hb, hml, hr, hlocks, hown, hts⟩ := F
  have hown : s.vm.findClass "SpannedCells$Heights" = some m.cls := hown
  have hz : ∀ w9 ∈ zT, w9.before [.ref hh, .ref g, .int (nI gp)].toArray s = true := fun w9 h => hts w9 (List.mem_cons_of_mem _ h)
  have hl : lv_has ls 6 [(0, .ref hh), (1, .ref g), (2, .int (nI gp))] := hl
  refine z_q (fun Q hQ => ?_)
  refine lv_aload_n hx hb dHE_measure_0 rfl (lv_at hl 0 rfl) ?_
  refine va_get (D := (dC, dI)) (ci := 5) (v := .ref ln) (C := RHE) (T := THE) (N := 1) hx hb hz in_HE hown hK hP 0 rfl rfl 0 (by decide) (hz _ wd_145) (fun _ h9 => h9) rfl dHE_measure_1 ?_
  refine zw_callTv (wr := [zob hh 5 [.ref ln], zob g 1 [.ref al, .int (nI gr), .int (nI gs), .int (nI bg), .int (nI re), .int (nI 0)], zob al 2 [.ref t, .int (nI 0), .int mo]]) hK hP hD hS hA [1, 2] [0, 3, 4] rfl rfl (by decide) (by decide) (va_runV (As := []) (rest := []) ⟨hx, hb, hml, hown, hz⟩ ((x_LI_reset l dC dI T ln pn kn gn ) s.heap.size) (cwV 0 hz (z_gV wd_539 wd_458 wd_459 wd_35 wd_460) rfl rfl rfl (by decide +kernel) ⟨Nat.le_of_ble_eq_true rfl, Nat.le_of_ble_eq_true rfl⟩) (zw_preVT hK hP hD (va_recv (q0 := 1) hK hP (q := (RLI, TLI, 1)) rfl rfl) [1, 2] (by decide) rfl [0] rfl z_true (fun _ _ _ => trivial)) rfl rfl hl.1 rfl (lv_room (Nat.le_of_ble_eq_true rfl)) dHE_measure_4 ⟨Nat.le_of_ble_eq_true rfl, Nat.le_of_ble_eq_true rfl⟩) (fun u H locs h_r1 hP hD hK hS => ?_)
  have hP : va_P (dC, dI) vwCl ([zob hh 5 [.ref ln], zob ln 4 [.ref pn], zar pn kn 12 (fun j => nI (zO j)), zob g 1 [.ref al, .int (nI gr), .int (nI gs), .int (nI bg), .int (nI re), .int (nI 0)], zob al 2 [.ref t, .int (nI 0), .int mo]] ++ T) H := zt_sub hP [0, 3, 4, 1, 2] rfl
  have hD : va_D A ([zob hh 5 [.ref ln], zob ln 4 [.ref pn], zar pn kn 12 (fun j => nI (zO j)), zob g 1 [.ref al, .int (nI gr), .int (nI gs), .int (nI bg), .int (nI re), .int (nI 0)], zob al 2 [.ref t, .int (nI 0), .int mo]] ++ T) := zt_subD hD [0, 3, 4, 1, 2] (by decide) rfl
  have hK : va_K (dC, dI) vwCl [(kn, .int)] s := hK
  refine lv_iconst (v := nI 1) hx hb dHE_measure_7 (by decide) ?_
  refine lv_istore_n hx hb dHE_measure_8 rfl hl (Nat.le_of_ble_eq_true rfl) rfl (fun ls hl => ?_)
  have hl : lv_has ls 6 [(3, .int (nI 1)), (0, .ref hh), (1, .ref g), (2, .int (nI gp))] := hl
  refine zl_upW (σ := Unit) 13 (fun i x9 ls H locs => lv_has ls 6 [(3, .int (nI i)), (2, .int (nI gp)), (1, .ref g), (0, .ref hh)] ∧ va_P (dC, dI) vwCl ([zob hh 5 [.ref ln], zob ln 4 [.ref pn], zar pn kn 12 (fun j => nI (zO j)), zob g 1 [.ref al, .int (nI gr), .int (nI gs), .int (nI bg), .int (nI re), .int (nI 0)], zob al 2 [.ref t, .int (nI 0), .int mo]] ++ T) H ∧ va_D A ([zob hh 5 [.ref ln], zob ln 4 [.ref pn], zar pn kn 12 (fun j => nI (zO j)), zob g 1 [.ref al, .int (nI gr), .int (nI gs), .int (nI bg), .int (nI re), .int (nI 0)], zob al 2 [.ref t, .int (nI 0), .int mo]] ++ T) ∧ va_S A s.heap H locs) ?_ ?_ 1 (by decide) () ls H locs ⟨lv_sub hl [0, 3, 2, 1] rfl, hP, hD, hS⟩
  · intro x9 ls H locs hI
    obtain ⟨hl, hP, hD, hS⟩ := hI
    have hl : lv_has ls 6 [(3, .int (nI 13)), (2, .int (nI gp)), (1, .ref g), (0, .ref hh)] := hl
    have hP : va_P (dC, dI) vwCl ([zob hh 5 [.ref ln], zob ln 4 [.ref pn], zar pn kn 12 (fun j => nI (zO j)), zob g 1 [.ref al, .int (nI gr), .int (nI gs), .int (nI bg), .int (nI re), .int (nI 0)], zob al 2 [.ref t, .int (nI 0), .int mo]] ++ T) H := hP
    have hD : va_D A ([zob hh 5 [.ref ln], zob ln 4 [.ref pn], zar pn kn 12 (fun j => nI (zO j)), zob g 1 [.ref al, .int (nI gr), .int (nI gs), .int (nI bg), .int (nI re), .int (nI 0)], zob al 2 [.ref t, .int (nI 0), .int mo]] ++ T) := hD
    refine lv_iload_n hx hb dHE_measure_9 rfl (lv_at hl 0 rfl) ?_
    refine lv_bipush (v := nI 12) hx hb dHE_measure_10 (by decide) ?_
    refine lv_icmp_gt (tgt := 83) hx hb dHE_measure_12 rfl (fun _ => ?_) (fun h => absurd (by decide) h)
    subst hQ
    exact zw_vret (D := (dC, dI)) (cl := vwCl) (A := A) () hx hb hr hlocks (trivial) (zt_sub hP [0, 1, 2, 3, 4] rfl) (hK.sub [] rfl) (zt_subD hD [0, 1, 2, 3, 4] (by decide) rfl) hS dHE_measure_83
  · intro i hi ih
    intro x9 ls H locs hI
    obtain ⟨hl, hP, hD, hS⟩ := hI
    have hl : lv_has ls 6 [(3, .int (nI i)), (2, .int (nI gp)), (1, .ref g), (0, .ref hh)] := hl
    have hP : va_P (dC, dI) vwCl ([zob hh 5 [.ref ln], zob ln 4 [.ref pn], zar pn kn 12 (fun j => nI (zO j)), zob g 1 [.ref al, .int (nI gr), .int (nI gs), .int (nI bg), .int (nI re), .int (nI 0)], zob al 2 [.ref t, .int (nI 0), .int mo]] ++ T) H := hP
    have hD : va_D A ([zob hh 5 [.ref ln], zob ln 4 [.ref pn], zar pn kn 12 (fun j => nI (zO j)), zob g 1 [.ref al, .int (nI gr), .int (nI gs), .int (nI bg), .int (nI re), .int (nI 0)], zob al 2 [.ref t, .int (nI 0), .int mo]] ++ T) := hD
    refine lv_iload_n hx hb dHE_measure_9 rfl (lv_at hl 0 rfl) ?_
    refine lv_bipush (v := nI 12) hx hb dHE_measure_10 (by decide) ?_
    have t2 := nI_toInt (n := i) (by omega)
    have t3 := nI_toInt (n := 12) (by omega)
    refine lv_icmp_gt (tgt := 83) hx hb dHE_measure_12 rfl (fun h => by have h := z_lt h; omega) (fun _ => ?_)
    refine lv_iconst (v := nI 0) hx hb dHE_measure_15 (by decide) ?_
    refine lv_istore hx hb dHE_measure_16 hl (Nat.le_of_ble_eq_true rfl) rfl (fun ls hl => ?_)
    have hl : lv_has ls 6 [(4, .int (nI 0)), (3, .int (nI i)), (2, .int (nI gp)), (1, .ref g), (0, .ref hh)] := hl
    refine lv_iload hx hb dHE_measure_18 (lv_at hl 0 rfl) ?_
    refine lv_aload_n hx hb dHE_measure_20 rfl (lv_at hl 3 rfl) ?_
    refine vp_callSi (W.runV (As := []) (rest := [.int (nI 0)]) ⟨hx, hb, hml, hown, hz⟩ (e_GR_cellCount l dC dI g al gr gs bg re t mo (by omega)) (cwV 0 hz (z_gV wd_540 wd_376 wd_377 wd_30 wd_378) rfl rfl rfl (by decide +kernel) ⟨Nat.le_of_ble_eq_true rfl, Nat.le_of_ble_eq_true rfl⟩) (zr_preV hK (hP.sub [3, 4] rfl) (va_recv (q0 := 3) hK hP (q := (RGR, TGR, 6)) rfl rfl) [] rfl z_true (fun _ _ _ => trivial)) rfl rfl hl.1 rfl (lv_room (Nat.le_of_ble_eq_true rfl)) dHE_measure_21 ⟨Nat.le_of_ble_eq_true rfl, Nat.le_of_ble_eq_true rfl⟩) (fun r4 h_r4 => ?_)
    have h_r4 : r4 = nI 0 := h_r4
    subst h_r4
    refine lv_icmp_ge (tgt := 77) hx hb dHE_measure_24 rfl (fun _ => ?_) (fun h => absurd (by decide) h)
    refine lv_iinc (k := 1) (v := nI (i + 1)) hx hb dHE_measure_77 hl rfl (by rw [show Int32.ofInt 1 = nI 1 from by decide]; exact nI_add _ _) (Nat.le_of_ble_eq_true rfl) rfl (fun ls hl => ?_)
    have hl : lv_has ls 6 [(3, .int (nI (i + 1))), (4, .int (nI 0)), (2, .int (nI gp)), (1, .ref g), (0, .ref hh)] := hl
    refine lv_goto (tgt := 9) hx hb dHE_measure_80 rfl ?_
    exact ih () ls H locs ⟨lv_sub hl [0, 2, 3, 4] rfl, hP, hD, hS⟩

set_option maxHeartbeats 4000000 in
set_option maxRecDepth 100000 in
theorem xe_SC_measuredHeights (l : Launch) (dC : Nat → ClassId) (dI : Nat → Nat → Nat) (T : va_W) (h0 : Nat) (sp : Nat) (gp : Nat) (fx : Nat) (wd : Nat) (hh : Nat) (ln : Nat) (pn : Nat) (kn : ClassId) (gn : Nat → Int32) (g : Nat) (al : Nat) (gr : Nat) (gs : Nat) (bg : Nat) (re : Nat) (t : Nat) (mo : Int32) (hg : gr ≤ 1000 ∧ gs ≤ 1000 ∧ bg ≤ 1000 ∧ re ≤ 1000) : zw_Mr (S := Unit) l ySC_measuredHeights wSC_measuredHeights ({ frames := 3, cells := 0, slots := 0, locals := 68 }) [.ref h0] (dC, dI) vwCl ([zob h0 0 [.ref g, .ref wd, .ref hh, .int (nI sp), .int (nI gp), .int (nI fx)], zob hh 5 [.ref ln], zob ln 4 [.ref pn], zar pn kn 12 gn, zob g 1 [.ref al, .int (nI gr), .int (nI gs), .int (nI bg), .int (nI re), .int (nI 0)], zob al 2 [.ref t, .int (nI 0), .int mo]] ++ T) [(kn, .int)] (fun _ _ => True) (fun (_ : Unit) => True) (fun (_ : Unit) => ([zob h0 0 [.ref g, .ref wd, .ref hh, .int (nI sp), .int (nI gp), .int (nI fx)], zob hh 5 [.ref ln], zob ln 4 [.ref pn], zar pn kn 12 (fun j => nI (zO j)), zob g 1 [.ref al, .int (nI gr), .int (nI gs), .int (nI bg), .int (nI re), .int (nI 0)], zob al 2 [.ref t, .int (nI 0), .int mo]] ++ T)) (fun (_ : Unit) => []) (fun (_ : Unit) => ln) 0 0 := by
  refine zw_headr (cc := cSC_measuredHeights) (maxL := 1) (ret := (some (.object "SpannedCells$Lines"))) (by decide +kernel) rfl (Nat.le_of_ble_eq_true rfl) ?_
  intro p e s m below meth c ls A F hA hP hK hD hS hX hl
  obtain ⟨hx, hb, hml, hr, hlocks, hown, hts⟩ := F
  have hown : s.vm.findClass "SpannedCells" = some m.cls := hown
  have hz : ∀ w9 ∈ zT, w9.before [.ref h0].toArray s = true := fun w9 h => hts w9 (List.mem_cons_of_mem _ h)
  have hl : lv_has ls 1 [(0, .ref h0)] := hl
  refine z_q (fun Q hQ => ?_)
  refine lv_aload_n hx hb dSC_measuredHeights_0 rfl (lv_at hl 0 rfl) ?_
  refine va_get (D := (dC, dI)) (ci := 0) (v := .ref hh) (C := RSC) (T := TSC) (N := 6) hx hb hz in_SC hown hK hP 0 rfl rfl 2 (by decide) (hz _ wd_152) (fun _ h9 => h9) rfl dSC_measuredHeights_1 ?_
  refine lv_aload_n hx hb dSC_measuredHeights_4 rfl (lv_at hl 0 rfl) ?_
  refine va_get (D := (dC, dI)) (ci := 0) (v := .ref g) (C := RSC) (T := TSC) (N := 6) hx hb hz in_SC hown hK hP 0 rfl rfl 0 (by decide) (hz _ wd_150) (fun _ h9 => h9) rfl dSC_measuredHeights_5 ?_
  refine lv_aload_n hx hb dSC_measuredHeights_8 rfl (lv_at hl 0 rfl) ?_
  refine va_get (D := (dC, dI)) (ci := 0) (v := .int (nI gp)) (C := RSC) (T := TSC) (N := 6) hx hb hz in_SC hown hK hP 0 rfl rfl 4 (by decide) (hz _ wd_154) (fun _ h9 => h9) rfl dSC_measuredHeights_9 ?_
  refine zw_callTv (wr := [zob h0 0 [.ref g, .ref wd, .ref hh, .int (nI sp), .int (nI gp), .int (nI fx)]]) hK hP hD hS hA [1, 2, 3, 4, 5] [0] rfl rfl (by decide) (by decide) (va_runV (As := [.ref g, .int (nI gp)]) (rest := []) ⟨hx, hb, hml, hown, hz⟩ ((xe_HE_measure l dC dI T hh ln pn kn gn g al gr gs bg re t mo gp (by omega)) s.heap.size) (cwV 2 hz (z_gV wd_535 wd_536 wd_537 wd_36 wd_538) rfl rfl rfl (by decide +kernel) ⟨Nat.le_of_ble_eq_true rfl, Nat.le_of_ble_eq_true rfl⟩) (zw_preVT hK hP hD (va_recv (q0 := 1) hK hP (q := (RHE, THE, 1)) rfl rfl) [1, 2, 3, 4, 5] (by decide) rfl [0] rfl z_true (fun _ _ _ => trivial)) rfl rfl hl.1 rfl (lv_room (Nat.le_of_ble_eq_true rfl)) dSC_measuredHeights_12 ⟨Nat.le_of_ble_eq_true rfl, Nat.le_of_ble_eq_true rfl⟩) (fun u H locs h_r1 hP hD hK hS => ?_)
  have hP : va_P (dC, dI) vwCl ([zob h0 0 [.ref g, .ref wd, .ref hh, .int (nI sp), .int (nI gp), .int (nI fx)], zob hh 5 [.ref ln], zob ln 4 [.ref pn], zar pn kn 12 (fun j => nI (zO j)), zob g 1 [.ref al, .int (nI gr), .int (nI gs), .int (nI bg), .int (nI re), .int (nI 0)], zob al 2 [.ref t, .int (nI 0), .int mo]] ++ T) H := zt_sub hP [0, 1, 2, 3, 4, 5] rfl
  have hD : va_D A ([zob h0 0 [.ref g, .ref wd, .ref hh, .int (nI sp), .int (nI gp), .int (nI fx)], zob hh 5 [.ref ln], zob ln 4 [.ref pn], zar pn kn 12 (fun j => nI (zO j)), zob g 1 [.ref al, .int (nI gr), .int (nI gs), .int (nI bg), .int (nI re), .int (nI 0)], zob al 2 [.ref t, .int (nI 0), .int mo]] ++ T) := zt_subD hD [0, 1, 2, 3, 4, 5] (by decide) rfl
  have hK : va_K (dC, dI) vwCl [(kn, .int)] s := hK
  refine lv_aload_n hx hb dSC_measuredHeights_15 rfl (lv_at hl 0 rfl) ?_
  refine va_get (D := (dC, dI)) (ci := 0) (v := .ref hh) (C := RSC) (T := TSC) (N := 6) hx hb hz in_SC hown hK hP 0 rfl rfl 2 (by decide) (hz _ wd_152) (fun _ h9 => h9) rfl dSC_measuredHeights_16 ?_
  refine va_get (D := (dC, dI)) (ci := 5) (v := .ref ln) (C := RHE) (T := THE) (N := 1) hx hb hz in_HE hown hK hP 1 rfl rfl 0 (by decide) (hz _ wd_146) (fun _ h9 => h9) rfl dSC_measuredHeights_19 ?_
  subst hQ
  exact zw_aret (D := (dC, dI)) (cl := vwCl) (A := A) () hx hb hr (Or.inl ⟨_, rfl⟩) hlocks (rfl) (trivial) (zt_sub hP [0, 1, 2, 3, 4, 5] rfl) (hK.sub [] rfl) (zt_subD hD [0, 1, 2, 3, 4, 5] (by decide) rfl) hS dSC_measuredHeights_22

set_option maxHeartbeats 4000000 in
set_option maxRecDepth 100000 in
theorem xe_SC_high (l : Launch) (dC : Nat → ClassId) (dI : Nat → Nat → Nat) (T : va_W) (h0 : Nat) (sp : Nat) (gp : Nat) (fx : Nat) (wd : Nat) (hh : Nat) (ln : Nat) (pn : Nat) (kn : ClassId) (gn : Nat → Int32) (g : Nat) (al : Nat) (gr : Nat) (gs : Nat) (bg : Nat) (re : Nat) (t : Nat) (mo : Int32) (y : Int32) (hg : gr ≤ 1000 ∧ gs ≤ 1000 ∧ bg ≤ 1000 ∧ re ≤ 1000) (h12 : re ≤ 12) : zw_Mi (S := (Nat → Int32)) l ySC_high wSC_high ({ frames := 4, cells := 0, slots := 0, locals := 88 }) [.ref h0, .int y] (dC, dI) vwCl ([zob h0 0 [.ref g, .ref wd, .ref hh, .int (nI sp), .int (nI gp), .int (nI fx)], zob hh 5 [.ref ln], zob ln 4 [.ref pn], zar pn kn 12 gn, zob g 1 [.ref al, .int (nI gr), .int (nI gs), .int (nI bg), .int (nI re), .int (nI 0)], zob al 2 [.ref t, .int (nI 0), .int mo]] ++ T) [(kn, .int)] (fun _ _ => True) (fun r (gn2 : Nat → Int32) => (¬ (0 ≤ y.toInt ∧ y.toInt < re) ∧ r = -1) ∨ (∃ y0, y0 < re ∧ y = nI y0 ∧ r = nI (zO y0))) (fun (gn2 : Nat → Int32) => ([zob h0 0 [.ref g, .ref wd, .ref hh, .int (nI sp), .int (nI gp), .int (nI fx)], zob hh 5 [.ref ln], zob ln 4 [.ref pn], zar pn kn 12 gn2, zob g 1 [.ref al, .int (nI gr), .int (nI gs), .int (nI bg), .int (nI re), .int (nI 0)], zob al 2 [.ref t, .int (nI 0), .int mo]] ++ T)) (fun (gn2 : Nat → Int32) => []) 0 0 := by
  refine zw_headi (cc := cSC_high) (maxL := 2) (ret := (some .int)) (by decide +kernel) rfl (Nat.le_of_ble_eq_true rfl) ?_
  intro p e s m below meth c ls A F hA hP hK hD hS hX hl
  obtain ⟨hx, hb, hml, hr, hlocks, hown, hts⟩ := F
  have hown : s.vm.findClass "SpannedCells" = some m.cls := hown
  have hz : ∀ w9 ∈ zT, w9.before [.ref h0, .int y].toArray s = true := fun w9 h => hts w9 (List.mem_cons_of_mem _ h)
  have hl : lv_has ls 2 [(0, .ref h0), (1, .int y)] := hl
  refine z_q (fun Q hQ => ?_)
  refine lv_iload_n hx hb dSC_high_0 rfl (lv_at hl 1 rfl) ?_
  refine lv_iconst (v := nI 0) hx hb dSC_high_1 (by decide) ?_
  refine lv_aload_n hx hb dSC_high_2 rfl (lv_at hl 0 rfl) ?_
  refine va_get (D := (dC, dI)) (ci := 0) (v := .ref g) (C := RSC) (T := TSC) (N := 6) hx hb hz in_SC hown hK hP 0 rfl rfl 0 (by decide) (hz _ wd_150) (fun _ h9 => h9) rfl dSC_high_3 ?_
  refine vp_callSi (W.runV (As := []) (rest := [.int (nI 0), .int y]) ⟨hx, hb, hml, hown, hz⟩ (e_GR_rowCount l dC dI g al gr gs bg re ) (cwV 0 hz (z_gV wd_399 wd_400 wd_401 wd_30 wd_402) rfl rfl rfl (by decide +kernel) ⟨Nat.le_of_ble_eq_true rfl, Nat.le_of_ble_eq_true rfl⟩) (zr_preV hK (hP.sub [4] rfl) (va_recv (q0 := 4) hK hP (q := (RGR, TGR, 6)) rfl rfl) [] rfl z_true (fun _ _ _ => trivial)) rfl rfl hl.1 rfl (lv_room (Nat.le_of_ble_eq_true rfl)) dSC_high_6 ⟨Nat.le_of_ble_eq_true rfl, Nat.le_of_ble_eq_true rfl⟩) (fun r1 h_r1 => ?_)
  have h_r1 : r1 = nI re := h_r1
  subst h_r1
  refine lv_iconst (v := nI 1) hx hb dSC_high_9 (by decide) ?_
  refine lv_isub hx hb dSC_high_10 ?_
  refine vp_callSi (W.runS (As := [.int y, .int (nI 0), .int ((nI re) - (nI 1))]) (rest := []) ⟨hx, hb, hml, hown, hz⟩ (f_SC_within l dC dI y (nI 0) ((nI re) - (nI 1)) ) (va_cwS 3 hz (z_gS wd_219 wd_220 wd_29 wd_221) rfl rfl rfl (by decide +kernel) ⟨Nat.le_of_ble_eq_true rfl, Nat.le_of_ble_eq_true rfl⟩) (zr_preS hK (hP.sub [] rfl) [] rfl z_true (fun _ _ _ => trivial)) rfl rfl hl.1 rfl (lv_room (Nat.le_of_ble_eq_true rfl)) dSC_high_11 ⟨Nat.le_of_ble_eq_true rfl, Nat.le_of_ble_eq_true rfl⟩) (fun ra h_ra => ?_)
  have h_ra : z_yn ra ((nI 0).toInt ≤ y.toInt ∧ y.toInt ≤ ((nI re) - (nI 1)).toInt) := h_ra
  have t_a := pk_sub_toInt (a := re) (b := 1) (by omega) (by omega)
  have t_0 := nI_toInt (n := 0) (by omega)
  refine lv_if_ne (tgt := 19) hx hb dSC_high_14 rfl (fun h_b => ?_) (fun h_b => ?_)
  · have h_b := z_yT h_ra h_b
    obtain ⟨y_v, hy_v, rfl⟩ := z_ofIn (c := y) (n := re) (by omega) (by omega) (by omega)
    refine lv_aload_n hx hb dSC_high_19 rfl (lv_at hl 0 rfl) ?_
    refine zw_callTr (wr := []) hK hP hD hS hA [0, 1, 2, 3, 4, 5] [] rfl rfl (by decide) (by decide) (va_runV (As := []) (rest := []) ⟨hx, hb, hml, hown, hz⟩ ((xe_SC_measuredHeights l dC dI T h0 sp gp fx wd hh ln pn kn gn g al gr gs bg re t mo (by omega)) s.heap.size) (cwV 0 hz (z_gV wd_531 wd_533 wd_12 wd_29 wd_534) rfl rfl rfl (by decide +kernel) ⟨Nat.le_of_ble_eq_true rfl, Nat.le_of_ble_eq_true rfl⟩) (zw_preVT hK hP hD (va_recv (q0 := 0) hK hP (q := (RSC, TSC, 6)) rfl rfl) [0, 1, 2, 3, 4, 5] (by decide) rfl [0] rfl z_true (fun _ _ _ => trivial)) rfl rfl hl.1 rfl (lv_room (Nat.le_of_ble_eq_true rfl)) dSC_high_20 ⟨Nat.le_of_ble_eq_true rfl, Nat.le_of_ble_eq_true rfl⟩) (fun u H locs h_r3 hP hD hK hS => ?_)
    have hP : va_P (dC, dI) vwCl ([zob h0 0 [.ref g, .ref wd, .ref hh, .int (nI sp), .int (nI gp), .int (nI fx)], zob hh 5 [.ref ln], zob ln 4 [.ref pn], zar pn kn 12 (fun j => nI (zO j)), zob g 1 [.ref al, .int (nI gr), .int (nI gs), .int (nI bg), .int (nI re), .int (nI 0)], zob al 2 [.ref t, .int (nI 0), .int mo]] ++ T) H := zt_sub hP [0, 1, 2, 3, 4, 5] rfl
    have hD : va_D A ([zob h0 0 [.ref g, .ref wd, .ref hh, .int (nI sp), .int (nI gp), .int (nI fx)], zob hh 5 [.ref ln], zob ln 4 [.ref pn], zar pn kn 12 (fun j => nI (zO j)), zob g 1 [.ref al, .int (nI gr), .int (nI gs), .int (nI bg), .int (nI re), .int (nI 0)], zob al 2 [.ref t, .int (nI 0), .int mo]] ++ T) := zt_subD hD [0, 1, 2, 3, 4, 5] (by decide) rfl
    have hK : va_K (dC, dI) vwCl [(kn, .int)] s := hK
    refine W.eq (g2 := F0 m 23 ls [.ref ln]) rfl ?_
    refine lv_iload_n hx hb dSC_high_23 rfl (lv_at hl 1 rfl) ?_
    refine vp_callSi (W.runV (As := [.int (nI y_v)]) (rest := []) ⟨hx, hb, hml, hown, hz⟩ (x_LI_sizeOf l dC dI ln pn kn zO y_v (by omega)) (cwV 1 hz (z_gV wd_492 wd_493 wd_494 wd_35 wd_495) rfl rfl rfl (by decide +kernel) ⟨Nat.le_of_ble_eq_true rfl, Nat.le_of_ble_eq_true rfl⟩) (zr_preV hK (hP.sub [2, 3] rfl) (va_recv (q0 := 2) hK hP (q := (RLI, TLI, 1)) rfl rfl) [0] rfl z_true (fun _ _ _ => trivial)) rfl rfl hl.1 rfl (lv_room (Nat.le_of_ble_eq_true rfl)) dSC_high_24 ⟨Nat.le_of_ble_eq_true rfl, Nat.le_of_ble_eq_true rfl⟩) (fun r4 h_r4 => ?_)
    have h_r4 : r4 = nI (zO y_v) := h_r4
    subst h_r4
    subst hQ
    exact zw_iret (D := (dC, dI)) (cl := vwCl) (A := A) (fun j => nI (zO j)) hx hb hr hlocks (Or.inr ⟨y_v, hy_v, rfl, rfl⟩) (zt_sub hP [0, 1, 2, 3, 4, 5] rfl) (hK.sub [] rfl) (zt_subD hD [0, 1, 2, 3, 4, 5] (by decide) rfl) hS dSC_high_27
  · have h_b := z_yF h_ra h_b
    refine lv_iconst (v := (-1)) hx hb dSC_high_17 (by decide) ?_
    subst hQ
    exact zw_iret (D := (dC, dI)) (cl := vwCl) (A := A) gn hx hb hr hlocks (Or.inl ⟨by omega, rfl⟩) (zt_sub hP [0, 1, 2, 3, 4, 5] rfl) (hK.sub [] rfl) (zt_subD hD [0, 1, 2, 3, 4, 5] (by decide) rfl) hS dSC_high_18
