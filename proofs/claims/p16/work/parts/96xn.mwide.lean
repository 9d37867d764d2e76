set_option maxHeartbeats 4000000 in
set_option maxRecDepth 100000 in
theorem x_MD_wide (l : Launch) (dC : Nat → ClassId) (dI : Nat → Nat → Nat) (h0 : Nat) (b0 : Nat) (b1 : Nat) (b2 : Nat) (b3 : Nat) (b4 : Nat) (b5 : Nat) (b6 : Nat) (b7 : Nat) (b8 : Nat) (b9 : Nat) (b10 : Nat) (b11 : Nat) (b12 : Nat) (b13 : Nat) (b14 : Nat) (b15 : Nat) (b16 : Nat) (b17 : Nat) (kb0 : ClassId) (kb1 : ClassId) (kb2 : ClassId) (kb3 : ClassId) (kb4 : ClassId) (kb5 : ClassId) (kb6 : ClassId) (kb7 : ClassId) (kb8 : ClassId) (kb9 : ClassId) (kb10 : ClassId) (kb11 : ClassId) (mg : Nat) (n : Nat) (rg : Nat) (rn : Nat) (ro : Nat) (sp : Nat) (gp : Nat) (fx : Nat) (mm : Nat → Nat → Nat) (kb12 : ClassId) (kb13 : ClassId) (kb14 : ClassId) (kb16 : ClassId) (kb17 : ClassId) (g0 : Nat → Int32) (g1 : Nat → Int32) (g2 : Nat → Int32) (g4 : Nat → Int32) (g5 : Nat → Int32) (x : Int32) (w : Int32) (hm : ∀ a k, mm a k ≤ 1000) (hn : n ≤ 40) (hg : 1 ≤ mg ∧ mg ≤ 8 ∧ rg ≤ 8 ∧ rn ≤ 1000 ∧ ro ≤ 1000) (hG : ∀ k, k < n → mm 6 k < 8) (hE : ∀ k, k < n → mm 3 k ≤ zEn mm (mm 6 k) n) (hL : ∀ k, k < n → mm 2 k + mm 4 k ≤ 12 ∧ 1 ≤ mm 4 k) (hs : sp ≤ 10000 ∧ gp ≤ 20) (hlh : ∀ k, k < n → mm 7 k ≤ mm 8 k) (htile : zTile (mm 3) (mm 2) (mm 4) n) (hfx : fx ≤ 1) : zw_Mi (S := (Nat → Int32) × (Nat → Int32) × (Nat → Int32) × (Nat → Int32) × (Nat → Int32)) l yMD_wide wMD_wide ({ frames := 4, cells := 0, slots := 0, locals := 102 }) [.ref h0, .int x, .int w] (dC, dI) vwCl [zob h0 6 [.int (nI mg), .ref b0, .ref b1, .int (nI n), .ref b2, .ref b3, .ref b4, .ref b5, .ref b6, .ref b7, .ref b8, .ref b9, .ref b10, .ref b11, .int (nI rg - nI 1), .int (nI rn), .int (nI ro), .int (nI sp), .int (nI gp), .int (nI fx), .ref b12, .ref b13, .ref b14, .ref b15, .ref b16, .ref b17], zar b0 kb0 8 (fun j => nI (mm 0 j)), zar b1 kb1 8 (fun j => nI (mm 1 j)), zar b2 kb2 40 (fun j => nI (mm 2 j)), zar b3 kb3 40 (fun j => nI (mm 3 j)), zar b4 kb4 40 (fun j => nI (mm 4 j)), zar b5 kb5 40 (fun j => nI (mm 5 j)), zar b6 kb6 40 (fun j => nI (mm 6 j)), zar b7 kb7 40 (fun j => nI (mm 7 j)), zar b8 kb8 40 (fun j => nI (mm 8 j)), zar b9 kb9 40 (fun j => nI (mm 9 j)), zar b10 kb10 40 (fun j => nI (mm 10 j)), zar b11 kb11 40 (fun j => nI (mm 11 j)), zar b12 kb12 12 g0, zar b13 kb13 12 g1, zar b14 kb14 12 g2, zar b16 kb16 12 g4, zar b17 kb17 12 g5] [(kb0, .int), (kb1, .int), (kb2, .int), (kb3, .int), (kb4, .int), (kb5, .int), (kb6, .int), (kb7, .int), (kb8, .int), (kb9, .int), (kb10, .int), (kb11, .int), (kb12, .int), (kb13, .int), (kb14, .int), (kb16, .boolean), (kb17, .int)] (fun _ _ => True) (fun r u => match u with | (u0, u1, u2, u4, u5) => (¬ (0 ≤ x.toInt ∧ x.toInt < zCo mm n) ∧ r = -1) ∨ (∃ x0, x0 < zCo mm n ∧ x = nI x0 ∧ r = nI (zWi (zWr (mm 7) (mm 8) (mm 2) (mm 4) gp (zO, zO) n 6) (zCw fx gp n (zCo mm n) (sp - gp * (zCo mm n + 1)) (mm 7) (mm 3) (mm 2) (mm 4) (zWr (mm 7) (mm 8) (mm 2) (mm 4) gp (zO, zO) n 6).1 (zWr (mm 7) (mm 8) (mm 2) (mm 4) gp (zO, zO) n 6).2) w x0))) (fun u => match u with | (u0, u1, u2, u4, u5) => [zob h0 6 [.int (nI mg), .ref b0, .ref b1, .int (nI n), .ref b2, .ref b3, .ref b4, .ref b5, .ref b6, .ref b7, .ref b8, .ref b9, .ref b10, .ref b11, .int (nI rg - nI 1), .int (nI rn), .int (nI ro), .int (nI sp), .int (nI gp), .int (nI fx), .ref b12, .ref b13, .ref b14, .ref b15, .ref b16, .ref b17], zar b0 kb0 8 (fun j => nI (mm 0 j)), zar b1 kb1 8 (fun j => nI (mm 1 j)), zar b2 kb2 40 (fun j => nI (mm 2 j)), zar b3 kb3 40 (fun j => nI (mm 3 j)), zar b4 kb4 40 (fun j => nI (mm 4 j)), zar b5 kb5 40 (fun j => nI (mm 5 j)), zar b6 kb6 40 (fun j => nI (mm 6 j)), zar b7 kb7 40 (fun j => nI (mm 7 j)), zar b8 kb8 40 (fun j => nI (mm 8 j)), zar b9 kb9 40 (fun j => nI (mm 9 j)), zar b10 kb10 40 (fun j => nI (mm 10 j)), zar b11 kb11 40 (fun j => nI (mm 11 j)), zar b12 kb12 12 u0, zar b13 kb13 12 u1, zar b14 kb14 12 u2, zar b16 kb16 12 u4, zar b17 kb17 12 u5]) (fun u => match u with | (u0, u1, u2, u4, u5) => []) 0 0 := by
  refine zw_headi (cc := cMD_wide) (maxL := 3) (ret := (some .int)) (by decide +kernel) rfl (Nat.le_of_ble_eq_true rfl) ?_
  intro p e s m below meth c ls A F hA hP hK hD hS hX hl
  obtain ⟨hx, hb, hml, hr, hlocks, hown, hts⟩ := F
  have hown : s.vm.findClass "SpannedCellsModel" = some m.cls := hown
  have hz : ∀ w9 ∈ zT, w9.before [.ref h0, .int x, .int w].toArray s = true := fun w9 h => hts w9 (List.mem_cons_of_mem _ h)
  have hl : lv_has ls 3 [(0, .ref h0), (1, .int x), (2, .int w)] := hl
  refine z_q (fun Q hQ => ?_)
  have hco := zCo_12 (m := mm) (n := n) (fun k hk => (hL k hk).1)
  refine lv_iload_n hx hb dMD_wide_0 rfl (lv_at hl 1 rfl) ?_
  have t1 : (0 : Int32).toInt = 0 := by decide
  refine lv_if_lt (tgt := 12) hx hb dMD_wide_1 rfl (fun h2 => ?_) (fun h2 => ?_)
  · have h2 := z_lt h2
    refine lv_iconst (v := (-1)) hx hb dMD_wide_12 (by decide) ?_
    subst hQ
    exact zw_iret (D := (dC, dI)) (cl := vwCl) (A := A) (g0, g1, g2, g4, g5) hx hb hr hlocks (Or.inl ⟨by omega, rfl⟩) (hP.sub [0, 1, 2, 3, 4, 5, 6, 7, 8, 9, 10, 11, 12, 13, 14, 15, 16, 17] rfl) (hK.sub [] rfl) (hD.sub [0, 1, 2, 3, 4, 5, 6, 7, 8, 9, 10, 11, 12, 13, 14, 15, 16, 17] (by decide) rfl) hS dMD_wide_13
  · have h2 := z_nlt h2
    refine lv_iload_n hx hb dMD_wide_4 rfl (lv_at hl 1 rfl) ?_
    refine lv_aload_n hx hb dMD_wide_5 rfl (lv_at hl 0 rfl) ?_
    refine vp_callSi (W.runV (As := []) (rest := [.int x]) ⟨hx, hb, hml, hown, hz⟩ (f_MD_columns l dC dI h0 b0 b1 b2 b3 b4 b5 b6 b7 b8 b9 b10 b11 b12 b13 b14 b15 b16 b17 kb0 kb1 kb2 kb3 kb4 kb5 kb6 kb7 kb8 kb9 kb10 kb11 mg n _ rn ro sp gp fx _ (hm) (by omega) (hg) (hG) (hE)) (cwV 0 hz (z_gV wd_732 wd_701 wd_702 wd_37 wd_703) rfl rfl rfl (by decide +kernel) ⟨Nat.le_of_ble_eq_true rfl, Nat.le_of_ble_eq_true rfl⟩) (zr_preV hK (hP.sub [0, 1, 2, 3, 4, 5, 6, 7, 8, 9, 10, 11, 12] rfl) (va_recv (q0 := 0) hK hP (q := (RMD, TMD, 26)) rfl rfl) [0, 1, 2, 3, 4, 5, 6, 7, 8, 9, 10, 11] rfl z_true (fun _ _ _ => trivial)) rfl rfl hl.1 rfl (lv_room (Nat.le_of_ble_eq_true rfl)) dMD_wide_6 ⟨Nat.le_of_ble_eq_true rfl, Nat.le_of_ble_eq_true rfl⟩) (fun r3 h_r3 => ?_)
    have h_r3 : r3 = nI (zCo mm n) := h_r3
    subst h_r3
    have t4 := zCo_le hm n
    have t5 := nI_toInt (n := zCo mm n) (by omega)
    refine lv_icmp_lt (tgt := 14) hx hb dMD_wide_9 rfl (fun h_w => ?_) (fun h_w => ?_)
    · have h_w := z_lt h_w
      obtain ⟨x1, hx1, rfl⟩ := z_ofIn (c := x) (n := zCo mm n) (by omega) (by omega) (by omega)
      refine lv_aload_n hx hb dMD_wide_14 rfl (lv_at hl 0 rfl) ?_
      refine zw_callv (wr := []) hK hP hD hS hA [0, 1, 2, 3, 4, 5, 6, 7, 8, 9, 10, 11, 12, 13, 14, 15, 16, 17] [] rfl rfl (by decide) (by decide) (va_runV (As := []) (rest := []) ⟨hx, hb, hml, hown, hz⟩ ((x_MD_findWidths l dC dI h0 b0 b1 b2 b3 b4 b5 b6 b7 b8 b9 b10 b11 b12 b13 b14 b15 b16 b17 kb0 kb1 kb2 kb3 kb4 kb5 kb6 kb7 kb8 kb9 kb10 kb11 mg n _ rn ro sp gp fx _ kb12 kb13 kb14 kb16 kb17 g0 g1 g2 g4 g5 (hm) (by omega) (hg) (hG) (hE) (hL) (hs) (hlh) (htile) (by omega) (by omega)) s.heap.size) (cwV 0 hz (z_gV wd_743 wd_745 wd_19 wd_37 wd_746) rfl rfl rfl (by decide +kernel) ⟨Nat.le_of_ble_eq_true rfl, Nat.le_of_ble_eq_true rfl⟩) (zw_preV (q0 := 0) (q := (RMD, TMD, 26)) hK hP hD rfl rfl [0, 1, 2, 3, 4, 5, 6, 7, 8, 9, 10, 11, 12, 13, 14, 15, 16, 17] (by decide) rfl [0, 1, 2, 3, 4, 5, 6, 7, 8, 9, 10, 11, 12, 13, 14, 15, 16] rfl z_true (fun _ _ _ => trivial)) rfl rfl hl.1 rfl (lv_room (Nat.le_of_ble_eq_true rfl)) dMD_wide_15 ⟨Nat.le_of_ble_eq_true rfl, Nat.le_of_ble_eq_true rfl⟩) (fun u H locs h_fw hP hD hK hS => ?_)
      obtain ⟨L_2, M_2, C_2, b_4, w_5⟩ := u
      have hP : va_P (dC, dI) vwCl [zob h0 6 [.int (nI mg), .ref b0, .ref b1, .int (nI n), .ref b2, .ref b3, .ref b4, .ref b5, .ref b6, .ref b7, .ref b8, .ref b9, .ref b10, .ref b11, .int (nI rg - nI 1), .int (nI rn), .int (nI ro), .int (nI sp), .int (nI gp), .int (nI fx), .ref b12, .ref b13, .ref b14, .ref b15, .ref b16, .ref b17], zar b0 kb0 8 (fun j => nI (mm 0 j)), zar b1 kb1 8 (fun j => nI (mm 1 j)), zar b2 kb2 40 (fun j => nI (mm 2 j)), zar b3 kb3 40 (fun j => nI (mm 3 j)), zar b4 kb4 40 (fun j => nI (mm 4 j)), zar b5 kb5 40 (fun j => nI (mm 5 j)), zar b6 kb6 40 (fun j => nI (mm 6 j)), zar b7 kb7 40 (fun j => nI (mm 7 j)), zar b8 kb8 40 (fun j => nI (mm 8 j)), zar b9 kb9 40 (fun j => nI (mm 9 j)), zar b10 kb10 40 (fun j => nI (mm 10 j)), zar b11 kb11 40 (fun j => nI (mm 11 j)), zar b12 kb12 12 (fun j => nI (L_2 j)), zar b13 kb13 12 (fun j => nI (M_2 j)), zar b14 kb14 12 (fun j => nI (C_2 j)), zar b16 kb16 12 b_4, zar b17 kb17 12 w_5] H := hP.sub [0, 1, 2, 3, 4, 5, 6, 7, 8, 9, 10, 11, 12, 13, 14, 15, 16, 17] rfl
      have hD : va_D A [zob h0 6 [.int (nI mg), .ref b0, .ref b1, .int (nI n), .ref b2, .ref b3, .ref b4, .ref b5, .ref b6, .ref b7, .ref b8, .ref b9, .ref b10, .ref b11, .int (nI rg - nI 1), .int (nI rn), .int (nI ro), .int (nI sp), .int (nI gp), .int (nI fx), .ref b12, .ref b13, .ref b14, .ref b15, .ref b16, .ref b17], zar b0 kb0 8 (fun j => nI (mm 0 j)), zar b1 kb1 8 (fun j => nI (mm 1 j)), zar b2 kb2 40 (fun j => nI (mm 2 j)), zar b3 kb3 40 (fun j => nI (mm 3 j)), zar b4 kb4 40 (fun j => nI (mm 4 j)), zar b5 kb5 40 (fun j => nI (mm 5 j)), zar b6 kb6 40 (fun j => nI (mm 6 j)), zar b7 kb7 40 (fun j => nI (mm 7 j)), zar b8 kb8 40 (fun j => nI (mm 8 j)), zar b9 kb9 40 (fun j => nI (mm 9 j)), zar b10 kb10 40 (fun j => nI (mm 10 j)), zar b11 kb11 40 (fun j => nI (mm 11 j)), zar b12 kb12 12 (fun j => nI (L_2 j)), zar b13 kb13 12 (fun j => nI (M_2 j)), zar b14 kb14 12 (fun j => nI (C_2 j)), zar b16 kb16 12 b_4, zar b17 kb17 12 w_5] := hD.sub [0, 1, 2, 3, 4, 5, 6, 7, 8, 9, 10, 11, 12, 13, 14, 15, 16, 17] (by decide) rfl
      have hK : va_K (dC, dI) vwCl [(kb0, .int), (kb1, .int), (kb2, .int), (kb3, .int), (kb4, .int), (kb5, .int), (kb6, .int), (kb7, .int), (kb8, .int), (kb9, .int), (kb10, .int), (kb11, .int), (kb12, .int), (kb13, .int), (kb14, .int), (kb16, .boolean), (kb17, .int)] s := hK
      have h_fw : (L_2, M_2) = zWr (mm 7) (mm 8) (mm 2) (mm 4) gp (zO, zO) n 6 ∧ C_2 = zCw fx gp n (zCo mm n) (sp - gp * (zCo mm n + 1)) (mm 7) (mm 3) (mm 2) (mm 4) L_2 M_2 := h_fw
      refine lv_iload_n hx hb dMD_wide_18 rfl (lv_at hl 2 rfl) ?_
      refine lv_if_ne (tgt := 31) hx hb dMD_wide_19 rfl (fun h_w0 => ?_) (fun h_w0 => ?_)
      · refine lv_iload_n hx hb dMD_wide_31 rfl (lv_at hl 2 rfl) ?_
        refine lv_iconst (v := nI 1) hx hb dMD_wide_32 (by decide) ?_
        refine lv_icmp_ne (tgt := 45) hx hb dMD_wide_33 rfl (fun h_w1 => ?_) (fun h_w1 => ?_)
        · refine lv_aload_n hx hb dMD_wide_45 rfl (lv_at hl 0 rfl) ?_
          refine va_get (D := (dC, dI)) (ci := 6) (v := .ref b14) (C := RMD) (T := TMD) (N := 26) hx hb hz in_MD hown hK hP 0 rfl rfl 22 (by decide) (hz _ wd_606) (fun _ h9 => h9) rfl dMD_wide_46 ?_
          refine lv_iload_n hx hb dMD_wide_49 rfl (lv_at hl 1 rfl) ?_
          refine va_iald hx hb hK hP 15 14 rfl rfl (vp_in_nI (by omega) (by omega)) dMD_wide_50 ?_
          refine lv_topi (fun x9 e10 => ?_)
          have e10 : x9 = nI (C_2 x1) := e10.trans (by show nI (C_2 (nI x1).toNatClampNeg) = _; rw [nI_clamp (by omega)])
          subst e10
          subst hQ
          exact zw_iret (D := (dC, dI)) (cl := vwCl) (A := A) (fun j => nI (L_2 j), fun j => nI (M_2 j), fun j => nI (C_2 j), b_4, w_5) hx hb hr hlocks (Or.inr ⟨x1, hx1, rfl, by rw [zWi_2 h_w0 h_w1, ← h_fw.1, h_fw.2]⟩) (hP.sub [0, 1, 2, 3, 4, 5, 6, 7, 8, 9, 10, 11, 12, 13, 14, 15, 16, 17] rfl) (hK.sub [] rfl) (hD.sub [0, 1, 2, 3, 4, 5, 6, 7, 8, 9, 10, 11, 12, 13, 14, 15, 16, 17] (by decide) rfl) hS dMD_wide_51
        · refine lv_aload_n hx hb dMD_wide_36 rfl (lv_at hl 0 rfl) ?_
          refine va_get (D := (dC, dI)) (ci := 6) (v := .ref b13) (C := RMD) (T := TMD) (N := 26) hx hb hz in_MD hown hK hP 0 rfl rfl 21 (by decide) (hz _ wd_605) (fun _ h9 => h9) rfl dMD_wide_37 ?_
          refine lv_iload_n hx hb dMD_wide_40 rfl (lv_at hl 1 rfl) ?_
          refine va_iald hx hb hK hP 14 13 rfl rfl (vp_in_nI (by omega) (by omega)) dMD_wide_41 ?_
          refine lv_topi (fun x11 e12 => ?_)
          have e12 : x11 = nI (M_2 x1) := e12.trans (by show nI (M_2 (nI x1).toNatClampNeg) = _; rw [nI_clamp (by omega)])
          subst e12
          refine lv_goto (tgt := 51) hx hb dMD_wide_42 rfl ?_
          subst hQ
          exact zw_iret (D := (dC, dI)) (cl := vwCl) (A := A) (fun j => nI (L_2 j), fun j => nI (M_2 j), fun j => nI (C_2 j), b_4, w_5) hx hb hr hlocks (Or.inr ⟨x1, hx1, rfl, by rw [zWi_1 h_w0 h_w1, ← h_fw.1]⟩) (hP.sub [0, 1, 2, 3, 4, 5, 6, 7, 8, 9, 10, 11, 12, 13, 14, 15, 16, 17] rfl) (hK.sub [] rfl) (hD.sub [0, 1, 2, 3, 4, 5, 6, 7, 8, 9, 10, 11, 12, 13, 14, 15, 16, 17] (by decide) rfl) hS dMD_wide_51
      · refine lv_aload_n hx hb dMD_wide_22 rfl (lv_at hl 0 rfl) ?_
        refine va_get (D := (dC, dI)) (ci := 6) (v := .ref b12) (C := RMD) (T := TMD) (N := 26) hx hb hz in_MD hown hK hP 0 rfl rfl 20 (by decide) (hz _ wd_604) (fun _ h9 => h9) rfl dMD_wide_23 ?_
        refine lv_iload_n hx hb dMD_wide_26 rfl (lv_at hl 1 rfl) ?_
        refine va_iald hx hb hK hP 13 12 rfl rfl (vp_in_nI (by omega) (by omega)) dMD_wide_27 ?_
        refine lv_topi (fun x13 e14 => ?_)
        have e14 : x13 = nI (L_2 x1) := e14.trans (by show nI (L_2 (nI x1).toNatClampNeg) = _; rw [nI_clamp (by omega)])
        subst e14
        refine lv_goto (tgt := 51) hx hb dMD_wide_28 rfl ?_
        subst hQ
        exact zw_iret (D := (dC, dI)) (cl := vwCl) (A := A) (fun j => nI (L_2 j), fun j => nI (M_2 j), fun j => nI (C_2 j), b_4, w_5) hx hb hr hlocks (Or.inr ⟨x1, hx1, rfl, by rw [zWi_0 h_w0, ← h_fw.1]⟩) (hP.sub [0, 1, 2, 3, 4, 5, 6, 7, 8, 9, 10, 11, 12, 13, 14, 15, 16, 17] rfl) (hK.sub [] rfl) (hD.sub [0, 1, 2, 3, 4, 5, 6, 7, 8, 9, 10, 11, 12, 13, 14, 15, 16, 17] (by decide) rfl) hS dMD_wide_51
    · have h_w := z_nlt h_w
      refine lv_iconst (v := (-1)) hx hb dMD_wide_12 (by decide) ?_
      subst hQ
      exact zw_iret (D := (dC, dI)) (cl := vwCl) (A := A) (g0, g1, g2, g4, g5) hx hb hr hlocks (Or.inl ⟨by omega, rfl⟩) (hP.sub [0, 1, 2, 3, 4, 5, 6, 7, 8, 9, 10, 11, 12, 13, 14, 15, 16, 17] rfl) (hK.sub [] rfl) (hD.sub [0, 1, 2, 3, 4, 5, 6, 7, 8, 9, 10, 11, 12, 13, 14, 15, 16, 17] (by decide) rfl) hS dMD_wide_13
