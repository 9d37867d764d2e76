set_option maxHeartbeats 4000000 in
set_option maxRecDepth 100000 in
theorem f_MD_place (l : Launch) (dC : Nat → ClassId) (dI : Nat → Nat → Nat) (h0 : Nat) (b0 : Nat) (b1 : Nat) (b2 : Nat) (b3 : Nat) (b4 : Nat) (b5 : Nat) (b6 : Nat) (b7 : Nat) (b8 : Nat) (b9 : Nat) (b10 : Nat) (b11 : Nat) (b12 : Nat) (b13 : Nat) (b14 : Nat) (b15 : Nat) (b16 : Nat) (b17 : Nat) (kb0 : ClassId) (kb1 : ClassId) (kb2 : ClassId) (kb3 : ClassId) (kb4 : ClassId) (kb5 : ClassId) (kb6 : ClassId) (kb7 : ClassId) (kb8 : ClassId) (kb9 : ClassId) (kb10 : ClassId) (kb11 : ClassId) (mg : Nat) (n : Nat) (rg : Nat) (rn : Nat) (ro : Nat) (sp : Nat) (gp : Nat) (fx : Nat) (mm : Nat → Nat → Nat) (kb12 : ClassId) (kb13 : ClassId) (kb14 : ClassId) (kb15 : ClassId) (kb16 : ClassId) (kb17 : ClassId) (g0 : Nat → Int32) (g1 : Nat → Int32) (g2 : Nat → Int32) (g3 : Nat → Int32) (g4 : Nat → Int32) (g5 : Nat → Int32) (k : Int32) (w : Int32) (hm : ∀ a k, mm a k ≤ 1000) (hn : n ≤ 40) (hg : 1 ≤ mg ∧ mg ≤ 8 ∧ rg ≤ 8 ∧ rn ≤ 1000 ∧ ro ≤ 1000) (hG : ∀ k, k < n → mm 6 k < 8) (hE : ∀ k, k < n → mm 3 k ≤ zEn mm (mm 6 k) n) (hL : ∀ k, k < n → mm 2 k + mm 4 k ≤ 12 ∧ 1 ≤ mm 4 k) (hs : sp ≤ 10000 ∧ gp ≤ 20) (hT : ∀ k, k < n → mm 3 k + zDn mm n k ≤ 12 ∧ 1 ≤ zDn mm n k) (hR : zEn mm (mg - 1) n ≤ 12) : zw_Mi (S := (Nat → Int32) × (Nat → Int32) × (Nat → Int32) × (Nat → Int32) × (Nat → Int32) × (Nat → Int32)) l yMD_place wMD_place ({ frames := 4, cells := 0, slots := 0, locals := 102 }) [.ref h0, .int k, .int w] (dC, dI) vwCl [zob h0 6 [.int (nI mg), .ref b0, .ref b1, .int (nI n), .ref b2, .ref b3, .ref b4, .ref b5, .ref b6, .ref b7, .ref b8, .ref b9, .ref b10, .ref b11, .int (nI rg - nI 1), .int (nI rn), .int (nI ro), .int (nI sp), .int (nI gp), .int (nI fx), .ref b12, .ref b13, .ref b14, .ref b15, .ref b16, .ref b17], zar b0 kb0 8 (fun j => nI (mm 0 j)), zar b1 kb1 8 (fun j => nI (mm 1 j)), zar b2 kb2 40 (fun j => nI (mm 2 j)), zar b3 kb3 40 (fun j => nI (mm 3 j)), zar b4 kb4 40 (fun j => nI (mm 4 j)), zar b5 kb5 40 (fun j => nI (mm 5 j)), zar b6 kb6 40 (fun j => nI (mm 6 j)), zar b7 kb7 40 (fun j => nI (mm 7 j)), zar b8 kb8 40 (fun j => nI (mm 8 j)), zar b9 kb9 40 (fun j => nI (mm 9 j)), zar b10 kb10 40 (fun j => nI (mm 10 j)), zar b11 kb11 40 (fun j => nI (mm 11 j)), zar b12 kb12 12 g0, zar b13 kb13 12 g1, zar b14 kb14 12 g2, zar b15 kb15 12 g3, zar b16 kb16 12 g4, zar b17 kb17 12 g5] [(kb0, .int), (kb1, .int), (kb2, .int), (kb3, .int), (kb4, .int), (kb5, .int), (kb6, .int), (kb7, .int), (kb8, .int), (kb9, .int), (kb10, .int), (kb11, .int), (kb12, .int), (kb13, .int), (kb14, .int), (kb15, .int), (kb16, .boolean), (kb17, .int)] (fun _ _ => True) (fun r u => match u with | (u0, u1, u2, u3, u4, u5) => True) (fun u => match u with | (u0, u1, u2, u3, u4, u5) => [zob h0 6 [.int (nI mg), .ref b0, .ref b1, .int (nI n), .ref b2, .ref b3, .ref b4, .ref b5, .ref b6, .ref b7, .ref b8, .ref b9, .ref b10, .ref b11, .int (nI rg - nI 1), .int (nI rn), .int (nI ro), .int (nI sp), .int (nI gp), .int (nI fx), .ref b12, .ref b13, .ref b14, .ref b15, .ref b16, .ref b17], zar b0 kb0 8 (fun j => nI (mm 0 j)), zar b1 kb1 8 (fun j => nI (mm 1 j)), zar b2 kb2 40 (fun j => nI (mm 2 j)), zar b3 kb3 40 (fun j => nI (mm 3 j)), zar b4 kb4 40 (fun j => nI (mm 4 j)), zar b5 kb5 40 (fun j => nI (mm 5 j)), zar b6 kb6 40 (fun j => nI (mm 6 j)), zar b7 kb7 40 (fun j => nI (mm 7 j)), zar b8 kb8 40 (fun j => nI (mm 8 j)), zar b9 kb9 40 (fun j => nI (mm 9 j)), zar b10 kb10 40 (fun j => nI (mm 10 j)), zar b11 kb11 40 (fun j => nI (mm 11 j)), zar b12 kb12 12 u0, zar b13 kb13 12 u1, zar b14 kb14 12 u2, zar b15 kb15 12 u3, zar b16 kb16 12 u4, zar b17 kb17 12 u5]) (fun u => match u with | (u0, u1, u2, u3, u4, u5) => []) 0 0 := by
  refine zw_headi (cc := cMD_place) (maxL := 7) (ret := (some .int)) (by decide +kernel) rfl (Nat.le_of_ble_eq_true rfl) ?_
  intro p e s m below meth c ls A F hA hP hK hD hS hX hl
  obtain ⟨hx, hb, hml, hr, hlocks, hown, hts⟩ := F
  have hown : s.vm.findClass "SpannedCellsModel" = some m.cls := hown
  have hz : ∀ w9 ∈ zT, w9.before [.ref h0, .int k, .int w].toArray s = true := fun w9 h => hts w9 (List.mem_cons_of_mem _ h)
  have hl : lv_has ls 7 [(0, .ref h0), (1, .int k), (2, .int w)] := hl
  refine z_q (fun Q hQ => ?_)
  have hco := zCo_12 (m := mm) (n := n) (fun k hk => (hL k hk).1)
  refine lv_aload_n hx hb dMD_place_0 rfl (lv_at hl 0 rfl) ?_
  refine lv_iload_n hx hb dMD_place_1 rfl (lv_at hl 1 rfl) ?_
  refine vp_callSi (W.runV (As := [.int k]) (rest := []) ⟨hx, hb, hml, hown, hz⟩ (f_MD_isCell l dC dI h0 b0 b1 b2 b3 b4 b5 b6 b7 b8 b9 b10 b11 b12 b13 b14 b15 b16 b17 kb0 kb1 kb2 kb3 kb4 kb5 kb6 kb7 kb8 kb9 kb10 kb11 mg n _ rn ro sp gp fx _ k (hm) (by omega) (hg) (hG) (hE)) (cwV 1 hz (z_gV wd_688 wd_690 wd_15 wd_37 wd_691) rfl rfl rfl (by decide +kernel) ⟨Nat.le_of_ble_eq_true rfl, Nat.le_of_ble_eq_true rfl⟩) (zr_preV hK (hP.sub [0, 1, 2, 3, 4, 5, 6, 7, 8, 9, 10, 11, 12] rfl) (va_recv (q0 := 0) hK hP (q := (RMD, TMD, 26)) rfl rfl) [0, 1, 2, 3, 4, 5, 6, 7, 8, 9, 10, 11] rfl z_true (fun _ _ _ => trivial)) rfl rfl hl.1 rfl (lv_room (Nat.le_of_ble_eq_true rfl)) dMD_place_2 ⟨Nat.le_of_ble_eq_true rfl, Nat.le_of_ble_eq_true rfl⟩) (fun ra h_ra => ?_)
  have h_ra : z_yn ra (0 ≤ k.toInt ∧ k.toInt < n) := h_ra
  refine lv_if_eq (tgt := 17) hx hb dMD_place_5 rfl (fun h_b => ?_) (fun h_b => ?_)
  · have h_b := z_yF h_ra h_b
    refine lv_iconst (v := (-1)) hx hb dMD_place_17 (by decide) ?_
    subst hQ
    exact zw_iret (D := (dC, dI)) (cl := vwCl) (A := A) (g0, g1, g2, g3, g4, g5) hx hb hr hlocks (trivial) (hP.sub [0, 1, 2, 3, 4, 5, 6, 7, 8, 9, 10, 11, 12, 13, 14, 15, 16, 17, 18] rfl) (hK.sub [] rfl) (hD.sub [0, 1, 2, 3, 4, 5, 6, 7, 8, 9, 10, 11, 12, 13, 14, 15, 16, 17, 18] (by decide) rfl) hS dMD_place_18
  · have h_b := z_yT h_ra h_b
    obtain ⟨k1, hk1, rfl⟩ := z_ofIn (c := k) h_b.1 h_b.2 (by omega)
    have hLk := hL k1 hk1
    have hTk := hT k1 hk1
    refine lv_iload_n hx hb dMD_place_8 rfl (lv_at hl 2 rfl) ?_
    refine lv_if_lt (tgt := 17) hx hb dMD_place_9 rfl (fun h2 => ?_) (fun h2 => ?_)
    · refine lv_iconst (v := (-1)) hx hb dMD_place_17 (by decide) ?_
      subst hQ
      exact zw_iret (D := (dC, dI)) (cl := vwCl) (A := A) (g0, g1, g2, g3, g4, g5) hx hb hr hlocks (trivial) (hP.sub [0, 1, 2, 3, 4, 5, 6, 7, 8, 9, 10, 11, 12, 13, 14, 15, 16, 17, 18] rfl) (hK.sub [] rfl) (hD.sub [0, 1, 2, 3, 4, 5, 6, 7, 8, 9, 10, 11, 12, 13, 14, 15, 16, 17, 18] (by decide) rfl) hS dMD_place_18
    · refine lv_iload_n hx hb dMD_place_12 rfl (lv_at hl 2 rfl) ?_
      refine lv_iconst (v := nI 3) hx hb dMD_place_13 (by decide) ?_
      refine lv_icmp_le (tgt := 19) hx hb dMD_place_14 rfl (fun h3 => ?_) (fun h3 => ?_)
      · refine lv_aload_n hx hb dMD_place_19 rfl (lv_at hl 0 rfl) ?_
        refine zw_callv (wr := [zar b15 kb15 12 g3]) hK hP hD hS hA [0, 1, 2, 3, 4, 5, 6, 7, 8, 9, 10, 11, 12, 13, 14, 15, 17, 18] [16] rfl rfl (by decide) (by decide) (va_runV (As := []) (rest := []) ⟨hx, hb, hml, hown, hz⟩ ((f_MD_findWidths l dC dI h0 b0 b1 b2 b3 b4 b5 b6 b7 b8 b9 b10 b11 b12 b13 b14 b15 b16 b17 kb0 kb1 kb2 kb3 kb4 kb5 kb6 kb7 kb8 kb9 kb10 kb11 mg n _ rn ro sp gp fx _ kb12 kb13 kb14 kb16 kb17 g0 g1 g2 g4 g5 (hm) (by omega) (hg) (hG) (hE) (hL) (hs)) s.heap.size) (cwV 0 hz (z_gV wd_743 wd_745 wd_19 wd_37 wd_746) rfl rfl rfl (by decide +kernel) ⟨Nat.le_of_ble_eq_true rfl, Nat.le_of_ble_eq_true rfl⟩) (zw_preV (q0 := 0) (q := (RMD, TMD, 26)) hK hP hD rfl rfl [0, 1, 2, 3, 4, 5, 6, 7, 8, 9, 10, 11, 12, 13, 14, 15, 17, 18] (by decide) rfl [0, 1, 2, 3, 4, 5, 6, 7, 8, 9, 10, 11, 12, 13, 14, 16, 17] rfl z_true (fun _ _ _ => trivial)) rfl rfl hl.1 rfl (lv_room (Nat.le_of_ble_eq_true rfl)) dMD_place_20 ⟨Nat.le_of_ble_eq_true rfl, Nat.le_of_ble_eq_true rfl⟩) (fun u H locs h_r9 hP hD hK hS => ?_)
        obtain ⟨u_4, u_5, u_6, u_7, u_8⟩ := u
        have hP : va_P (dC, dI) vwCl [zob h0 6 [.int (nI mg), .ref b0, .ref b1, .int (nI n), .ref b2, .ref b3, .ref b4, .ref b5, .ref b6, .ref b7, .ref b8, .ref b9, .ref b10, .ref b11, .int (nI rg - nI 1), .int (nI rn), .int (nI ro), .int (nI sp), .int (nI gp), .int (nI fx), .ref b12, .ref b13, .ref b14, .ref b15, .ref b16, .ref b17], zar b0 kb0 8 (fun j => nI (mm 0 j)), zar b1 kb1 8 (fun j => nI (mm 1 j)), zar b2 kb2 40 (fun j => nI (mm 2 j)), zar b3 kb3 40 (fun j => nI (mm 3 j)), zar b4 kb4 40 (fun j => nI (mm 4 j)), zar b5 kb5 40 (fun j => nI (mm 5 j)), zar b6 kb6 40 (fun j => nI (mm 6 j)), zar b7 kb7 40 (fun j => nI (mm 7 j)), zar b8 kb8 40 (fun j => nI (mm 8 j)), zar b9 kb9 40 (fun j => nI (mm 9 j)), zar b10 kb10 40 (fun j => nI (mm 10 j)), zar b11 kb11 40 (fun j => nI (mm 11 j)), zar b12 kb12 12 u_4, zar b13 kb13 12 u_5, zar b14 kb14 12 u_6, zar b15 kb15 12 g3, zar b16 kb16 12 u_7, zar b17 kb17 12 u_8] H := hP.sub [1, 2, 3, 4, 5, 6, 7, 8, 9, 10, 11, 12, 13, 14, 15, 16, 0, 17, 18] rfl
        have hD : va_D A [zob h0 6 [.int (nI mg), .ref b0, .ref b1, .int (nI n), .ref b2, .ref b3, .ref b4, .ref b5, .ref b6, .ref b7, .ref b8, .ref b9, .ref b10, .ref b11, .int (nI rg - nI 1), .int (nI rn), .int (nI ro), .int (nI sp), .int (nI gp), .int (nI fx), .ref b12, .ref b13, .ref b14, .ref b15, .ref b16, .ref b17], zar b0 kb0 8 (fun j => nI (mm 0 j)), zar b1 kb1 8 (fun j => nI (mm 1 j)), zar b2 kb2 40 (fun j => nI (mm 2 j)), zar b3 kb3 40 (fun j => nI (mm 3 j)), zar b4 kb4 40 (fun j => nI (mm 4 j)), zar b5 kb5 40 (fun j => nI (mm 5 j)), zar b6 kb6 40 (fun j => nI (mm 6 j)), zar b7 kb7 40 (fun j => nI (mm 7 j)), zar b8 kb8 40 (fun j => nI (mm 8 j)), zar b9 kb9 40 (fun j => nI (mm 9 j)), zar b10 kb10 40 (fun j => nI (mm 10 j)), zar b11 kb11 40 (fun j => nI (mm 11 j)), zar b12 kb12 12 u_4, zar b13 kb13 12 u_5, zar b14 kb14 12 u_6, zar b15 kb15 12 g3, zar b16 kb16 12 u_7, zar b17 kb17 12 u_8] := hD.sub [1, 2, 3, 4, 5, 6, 7, 8, 9, 10, 11, 12, 13, 14, 15, 16, 0, 17, 18] (by decide) rfl
        have hK : va_K (dC, dI) vwCl [(kb0, .int), (kb1, .int), (kb2, .int), (kb3, .int), (kb4, .int), (kb5, .int), (kb6, .int), (kb7, .int), (kb8, .int), (kb9, .int), (kb10, .int), (kb11, .int), (kb12, .int), (kb13, .int), (kb14, .int), (kb15, .int), (kb16, .boolean), (kb17, .int)] s := hK
        refine lv_aload_n hx hb dMD_place_23 rfl (lv_at hl 0 rfl) ?_
        refine zw_callv (wr := [zar b12 kb12 12 u_4, zar b13 kb13 12 u_5, zar b14 kb14 12 u_6, zar b16 kb16 12 u_7]) hK hP hD hS hA [0, 1, 2, 3, 4, 5, 6, 7, 8, 9, 10, 11, 12, 16, 18] [13, 14, 15, 17] rfl rfl (by decide) (by decide) (va_runV (As := []) (rest := []) ⟨hx, hb, hml, hown, hz⟩ ((f_MD_findHeights l dC dI h0 b0 b1 b2 b3 b4 b5 b6 b7 b8 b9 b10 b11 b12 b13 b14 b15 b16 b17 kb0 kb1 kb2 kb3 kb4 kb5 kb6 kb7 kb8 kb9 kb10 kb11 mg n _ rn ro sp gp fx _ kb15 kb17 g3 u_8 (hm) (by omega) (hg) (hG) (hE) (hL) (hs) (hT)) H.size) (cwV 0 hz (z_gV wd_781 wd_783 wd_26 wd_37 wd_784) rfl rfl rfl (by decide +kernel) ⟨Nat.le_of_ble_eq_true rfl, Nat.le_of_ble_eq_true rfl⟩) (zw_preV (q0 := 0) (q := (RMD, TMD, 26)) hK hP hD rfl rfl [0, 1, 2, 3, 4, 5, 6, 7, 8, 9, 10, 11, 12, 16, 18] (by decide) rfl [0, 1, 2, 3, 4, 5, 6, 7, 8, 9, 10, 11, 15, 17] rfl z_true (fun _ _ _ => trivial)) rfl rfl hl.1 rfl (lv_room (Nat.le_of_ble_eq_true rfl)) dMD_place_24 ⟨Nat.le_of_ble_eq_true rfl, Nat.le_of_ble_eq_true rfl⟩) (fun u H locs h_r12 hP hD hK hS => ?_)
        obtain ⟨u_10, u_11⟩ := u
        have hP : va_P (dC, dI) vwCl [zob h0 6 [.int (nI mg), .ref b0, .ref b1, .int (nI n), .ref b2, .ref b3, .ref b4, .ref b5, .ref b6, .ref b7, .ref b8, .ref b9, .ref b10, .ref b11, .int (nI rg - nI 1), .int (nI rn), .int (nI ro), .int (nI sp), .int (nI gp), .int (nI fx), .ref b12, .ref b13, .ref b14, .ref b15, .ref b16, .ref b17], zar b0 kb0 8 (fun j => nI (mm 0 j)), zar b1 kb1 8 (fun j => nI (mm 1 j)), zar b2 kb2 40 (fun j => nI (mm 2 j)), zar b3 kb3 40 (fun j => nI (mm 3 j)), zar b4 kb4 40 (fun j => nI (mm 4 j)), zar b5 kb5 40 (fun j => nI (mm 5 j)), zar b6 kb6 40 (fun j => nI (mm 6 j)), zar b7 kb7 40 (fun j => nI (mm 7 j)), zar b8 kb8 40 (fun j => nI (mm 8 j)), zar b9 kb9 40 (fun j => nI (mm 9 j)), zar b10 kb10 40 (fun j => nI (mm 10 j)), zar b11 kb11 40 (fun j => nI (mm 11 j)), zar b12 kb12 12 u_4, zar b13 kb13 12 u_5, zar b14 kb14 12 u_6, zar b15 kb15 12 u_10, zar b16 kb16 12 u_7, zar b17 kb17 12 u_11] H := hP.sub [4, 5, 6, 7, 8, 9, 10, 11, 12, 13, 14, 15, 16, 0, 1, 2, 17, 3, 18] rfl
        have hD : va_D A [zob h0 6 [.int (nI mg), .ref b0, .ref b1, .int (nI n), .ref b2, .ref b3, .ref b4, .ref b5, .ref b6, .ref b7, .ref b8, .ref b9, .ref b10, .ref b11, .int (nI rg - nI 1), .int (nI rn), .int (nI ro), .int (nI sp), .int (nI gp), .int (nI fx), .ref b12, .ref b13, .ref b14, .ref b15, .ref b16, .ref b17], zar b0 kb0 8 (fun j => nI (mm 0 j)), zar b1 kb1 8 (fun j => nI (mm 1 j)), zar b2 kb2 40 (fun j => nI (mm 2 j)), zar b3 kb3 40 (fun j => nI (mm 3 j)), zar b4 kb4 40 (fun j => nI (mm 4 j)), zar b5 kb5 40 (fun j => nI (mm 5 j)), zar b6 kb6 40 (fun j => nI (mm 6 j)), zar b7 kb7 40 (fun j => nI (mm 7 j)), zar b8 kb8 40 (fun j => nI (mm 8 j)), zar b9 kb9 40 (fun j => nI (mm 9 j)), zar b10 kb10 40 (fun j => nI (mm 10 j)), zar b11 kb11 40 (fun j => nI (mm 11 j)), zar b12 kb12 12 u_4, zar b13 kb13 12 u_5, zar b14 kb14 12 u_6, zar b15 kb15 12 u_10, zar b16 kb16 12 u_7, zar b17 kb17 12 u_11] := hD.sub [4, 5, 6, 7, 8, 9, 10, 11, 12, 13, 14, 15, 16, 0, 1, 2, 17, 3, 18] (by decide) rfl
        have hK : va_K (dC, dI) vwCl [(kb0, .int), (kb1, .int), (kb2, .int), (kb3, .int), (kb4, .int), (kb5, .int), (kb6, .int), (kb7, .int), (kb8, .int), (kb9, .int), (kb10, .int), (kb11, .int), (kb12, .int), (kb13, .int), (kb14, .int), (kb15, .int), (kb16, .boolean), (kb17, .int)] s := hK
        refine lv_aload_n hx hb dMD_place_27 rfl (lv_at hl 0 rfl) ?_
        refine va_get (D := (dC, dI)) (ci := 6) (v := .ref b2) (C := RMD) (T := TMD) (N := 26) hx hb hz in_MD hown hK hP 0 rfl rfl 4 (by decide) (hz _ wd_588) (fun _ h9 => h9) rfl dMD_place_28 ?_
        refine lv_iload_n hx hb dMD_place_31 rfl (lv_at hl 1 rfl) ?_
        refine va_iald hx hb hK hP 3 2 rfl rfl (vp_in_nI (by omega) (by omega)) dMD_place_32 ?_
        refine lv_topi (fun x13 e14 => ?_)
        have e14 : x13 = nI (mm 2 k1) := e14.trans (by show nI (mm 2 (nI k1).toNatClampNeg) = _; rw [nI_clamp (by omega)])
        subst e14
        refine lv_istore_n hx hb dMD_place_33 rfl hl (Nat.le_of_ble_eq_true rfl) rfl (fun ls hl => ?_)
        have hl : lv_has ls 7 [(3, .int (nI (mm 2 k1))), (0, .ref h0), (1, .int (nI k1)), (2, .int w)] := hl
        refine lv_aload_n hx hb dMD_place_34 rfl (lv_at hl 1 rfl) ?_
        refine va_get (D := (dC, dI)) (ci := 6) (v := .ref b3) (C := RMD) (T := TMD) (N := 26) hx hb hz in_MD hown hK hP 0 rfl rfl 5 (by decide) (hz _ wd_589) (fun _ h9 => h9) rfl dMD_place_35 ?_
        refine lv_iload_n hx hb dMD_place_38 rfl (lv_at hl 2 rfl) ?_
        refine va_iald hx hb hK hP 4 3 rfl rfl (vp_in_nI (by omega) (by omega)) dMD_place_39 ?_
        refine lv_topi (fun x15 e16 => ?_)
        have e16 : x15 = nI (mm 3 k1) := e16.trans (by show nI (mm 3 (nI k1).toNatClampNeg) = _; rw [nI_clamp (by omega)])
        subst e16
        refine lv_istore hx hb dMD_place_40 hl (Nat.le_of_ble_eq_true rfl) rfl (fun ls hl => ?_)
        have hl : lv_has ls 7 [(4, .int (nI (mm 3 k1))), (3, .int (nI (mm 2 k1))), (0, .ref h0), (1, .int (nI k1)), (2, .int w)] := hl
        refine lv_iload_n hx hb dMD_place_42 rfl (lv_at hl 1 rfl) ?_
        refine lv_aload_n hx hb dMD_place_43 rfl (lv_at hl 2 rfl) ?_
        refine va_get (D := (dC, dI)) (ci := 6) (v := .ref b4) (C := RMD) (T := TMD) (N := 26) hx hb hz in_MD hown hK hP 0 rfl rfl 6 (by decide) (hz _ wd_590) (fun _ h9 => h9) rfl dMD_place_44 ?_
        refine lv_iload_n hx hb dMD_place_47 rfl (lv_at hl 3 rfl) ?_
        refine va_iald hx hb hK hP 5 4 rfl rfl (vp_in_nI (by omega) (by omega)) dMD_place_48 ?_
        refine lv_topi (fun x17 e18 => ?_)
        have e18 : x17 = nI (mm 4 k1) := e18.trans (by show nI (mm 4 (nI k1).toNatClampNeg) = _; rw [nI_clamp (by omega)])
        subst e18
        refine lv_iadd hx hb dMD_place_49 ?_
        refine lv_topi (fun x19 e20 => ?_)
        have e20 : x19 = nI ((mm 2 k1) + (mm 4 k1)) := e20.trans (nI_add _ _)
        subst e20
        refine lv_istore hx hb dMD_place_50 hl (Nat.le_of_ble_eq_true rfl) rfl (fun ls hl => ?_)
        have hl : lv_has ls 7 [(5, .int (nI ((mm 2 k1) + (mm 4 k1)))), (4, .int (nI (mm 3 k1))), (3, .int (nI (mm 2 k1))), (0, .ref h0), (1, .int (nI k1)), (2, .int w)] := hl
        refine lv_iload hx hb dMD_place_52 (lv_at hl 1 rfl) ?_
        refine lv_aload_n hx hb dMD_place_54 rfl (lv_at hl 3 rfl) ?_
        refine lv_iload_n hx hb dMD_place_55 rfl (lv_at hl 4 rfl) ?_
        refine vp_callSi (W.runV (As := [.int (nI k1)]) (rest := [.int (nI (mm 3 k1))]) ⟨hx, hb, hml, hown, hz⟩ (f_MD_down l dC dI h0 b0 b1 b2 b3 b4 b5 b6 b7 b8 b9 b10 b11 b12 b13 b14 b15 b16 b17 kb0 kb1 kb2 kb3 kb4 kb5 kb6 kb7 kb8 kb9 kb10 kb11 mg n _ rn ro sp gp fx _ k1 (hm) (by omega) (hg) (hG) (hE) (hk1)) (cwV 1 hz (z_gV wd_716 wd_718 wd_17 wd_37 wd_719) rfl rfl rfl (by decide +kernel) ⟨Nat.le_of_ble_eq_true rfl, Nat.le_of_ble_eq_true rfl⟩) (zr_preV hK (hP.sub [0, 1, 2, 3, 4, 5, 6, 7, 8, 9, 10, 11, 12] rfl) (va_recv (q0 := 0) hK hP (q := (RMD, TMD, 26)) rfl rfl) [0, 1, 2, 3, 4, 5, 6, 7, 8, 9, 10, 11] rfl z_true (fun _ _ _ => trivial)) rfl rfl hl.1 rfl (lv_room (Nat.le_of_ble_eq_true rfl)) dMD_place_56 ⟨Nat.le_of_ble_eq_true rfl, Nat.le_of_ble_eq_true rfl⟩) (fun r21 h_r21 => ?_)
        have h_r21 : r21 = nI (zDn mm n k1) := h_r21
        subst h_r21
        refine lv_iadd hx hb dMD_place_59 ?_
        refine lv_topi (fun x22 e23 => ?_)
        have e23 : x22 = nI ((mm 3 k1) + (zDn mm n k1)) := e23.trans (nI_add _ _)
        subst e23
        refine lv_istore hx hb dMD_place_60 hl (Nat.le_of_ble_eq_true rfl) rfl (fun ls hl => ?_)
        have hl : lv_has ls 7 [(6, .int (nI ((mm 3 k1) + (zDn mm n k1)))), (5, .int (nI ((mm 2 k1) + (mm 4 k1)))), (4, .int (nI (mm 3 k1))), (3, .int (nI (mm 2 k1))), (0, .ref h0), (1, .int (nI k1)), (2, .int w)] := hl
        refine lv_iload_n hx hb dMD_place_62 rfl (lv_at hl 6 rfl) ?_
        refine lv_if_ne (tgt := 85) hx hb dMD_place_63 rfl (fun h24 => ?_) (fun h24 => ?_)
        · refine lv_iload_n hx hb dMD_place_85 rfl (lv_at hl 6 rfl) ?_
          refine lv_iconst (v := nI 1) hx hb dMD_place_86 (by decide) ?_
          refine lv_icmp_ne (tgt := 111) hx hb dMD_place_87 rfl (fun h25 => ?_) (fun h25 => ?_)
          · refine lv_iload_n hx hb dMD_place_111 rfl (lv_at hl 6 rfl) ?_
            refine lv_iconst (v := nI 2) hx hb dMD_place_112 (by decide) ?_
            refine lv_icmp_ne (tgt := 141) hx hb dMD_place_113 rfl (fun h26 => ?_) (fun h26 => ?_)
            · refine lv_aload_n hx hb dMD_place_141 rfl (lv_at hl 4 rfl) ?_
              refine va_get (D := (dC, dI)) (ci := 6) (v := .ref b15) (C := RMD) (T := TMD) (N := 26) hx hb hz in_MD hown hK hP 0 rfl rfl 23 (by decide) (hz _ wd_607) (fun _ h9 => h9) rfl dMD_place_142 ?_
              refine lv_iload hx hb dMD_place_145 (lv_at hl 2 rfl) ?_
              refine lv_iload hx hb dMD_place_147 (lv_at hl 0 rfl) ?_
              refine vp_callSi (W.runS (As := [.ref b15, .int (nI (mm 3 k1)), .int (nI ((mm 3 k1) + (zDn mm n k1)))]) (rest := []) ⟨hx, hb, hml, hown, hz⟩ (f_MD_sumOf l dC dI b15 kb15 u_10 (mm 3 k1) ((mm 3 k1) + (zDn mm n k1)) (by omega) (by omega)) (va_cwS 3 hz (z_gS wd_762 wd_763 wd_37 wd_764) rfl rfl rfl (by decide +kernel) ⟨Nat.le_of_ble_eq_true rfl, Nat.le_of_ble_eq_true rfl⟩) (zr_preS hK (hP.sub [16] rfl) [15] rfl z_true (fun _ _ _ => trivial)) rfl rfl hl.1 rfl (lv_room (Nat.le_of_ble_eq_true rfl)) dMD_place_149 ⟨Nat.le_of_ble_eq_true rfl, Nat.le_of_ble_eq_true rfl⟩) (fun r27 h_r27 => ?_)
              refine lv_aload_n hx hb dMD_place_152 rfl (lv_at hl 4 rfl) ?_
              refine va_get (D := (dC, dI)) (ci := 6) (v := .int (nI gp)) (C := RMD) (T := TMD) (N := 26) hx hb hz in_MD hown hK hP 0 rfl rfl 18 (by decide) (hz _ wd_602) (fun _ h9 => h9) rfl dMD_place_153 ?_
              refine lv_iload hx hb dMD_place_156 (lv_at hl 0 rfl) ?_
              refine lv_iload hx hb dMD_place_158 (lv_at hl 2 rfl) ?_
              refine lv_isub hx hb dMD_place_160 ?_
              refine lv_topi (fun y28 _ => ?_)
              refine lv_iconst (v := nI 1) hx hb dMD_place_161 (by decide) ?_
              refine lv_isub hx hb dMD_place_162 ?_
              refine lv_topi (fun y29 _ => ?_)
              refine lv_imul hx hb dMD_place_163 ?_
              refine lv_topi (fun y30 _ => ?_)
              refine lv_iadd hx hb dMD_place_164 ?_
              refine lv_topi (fun y31 _ => ?_)
              subst hQ
              exact zw_iret (D := (dC, dI)) (cl := vwCl) (A := A) (u_4, u_5, u_6, u_10, u_7, u_11) hx hb hr hlocks (trivial) (hP.sub [0, 1, 2, 3, 4, 5, 6, 7, 8, 9, 10, 11, 12, 13, 14, 15, 16, 17, 18] rfl) (hK.sub [] rfl) (hD.sub [0, 1, 2, 3, 4, 5, 6, 7, 8, 9, 10, 11, 12, 13, 14, 15, 16, 17, 18] (by decide) rfl) hS dMD_place_165
            · refine lv_aload_n hx hb dMD_place_116 rfl (lv_at hl 4 rfl) ?_
              refine va_get (D := (dC, dI)) (ci := 6) (v := .ref b14) (C := RMD) (T := TMD) (N := 26) hx hb hz in_MD hown hK hP 0 rfl rfl 22 (by decide) (hz _ wd_606) (fun _ h9 => h9) rfl dMD_place_117 ?_
              refine lv_iload_n hx hb dMD_place_120 rfl (lv_at hl 3 rfl) ?_
              refine lv_iload hx hb dMD_place_121 (lv_at hl 1 rfl) ?_
              refine vp_callSi (W.runS (As := [.ref b14, .int (nI (mm 2 k1)), .int (nI ((mm 2 k1) + (mm 4 k1)))]) (rest := []) ⟨hx, hb, hml, hown, hz⟩ (f_MD_sumOf l dC dI b14 kb14 u_6 (mm 2 k1) ((mm 2 k1) + (mm 4 k1)) (by omega) (by omega)) (va_cwS 3 hz (z_gS wd_762 wd_763 wd_37 wd_764) rfl rfl rfl (by decide +kernel) ⟨Nat.le_of_ble_eq_true rfl, Nat.le_of_ble_eq_true rfl⟩) (zr_preS hK (hP.sub [15] rfl) [14] rfl z_true (fun _ _ _ => trivial)) rfl rfl hl.1 rfl (lv_room (Nat.le_of_ble_eq_true rfl)) dMD_place_123 ⟨Nat.le_of_ble_eq_true rfl, Nat.le_of_ble_eq_true rfl⟩) (fun r32 h_r32 => ?_)
              refine lv_aload_n hx hb dMD_place_126 rfl (lv_at hl 4 rfl) ?_
              refine va_get (D := (dC, dI)) (ci := 6) (v := .int (nI gp)) (C := RMD) (T := TMD) (N := 26) hx hb hz in_MD hown hK hP 0 rfl rfl 18 (by decide) (hz _ wd_602) (fun _ h9 => h9) rfl dMD_place_127 ?_
              refine lv_iload hx hb dMD_place_130 (lv_at hl 1 rfl) ?_
              refine lv_iload_n hx hb dMD_place_132 rfl (lv_at hl 3 rfl) ?_
              refine lv_isub hx hb dMD_place_133 ?_
              refine lv_topi (fun y33 _ => ?_)
              refine lv_iconst (v := nI 1) hx hb dMD_place_134 (by decide) ?_
              refine lv_isub hx hb dMD_place_135 ?_
              refine lv_topi (fun y34 _ => ?_)
              refine lv_imul hx hb dMD_place_136 ?_
              refine lv_topi (fun y35 _ => ?_)
              refine lv_iadd hx hb dMD_place_137 ?_
              refine lv_topi (fun y36 _ => ?_)
              refine lv_goto (tgt := 165) hx hb dMD_place_138 rfl ?_
              subst hQ
              exact zw_iret (D := (dC, dI)) (cl := vwCl) (A := A) (u_4, u_5, u_6, u_10, u_7, u_11) hx hb hr hlocks (trivial) (hP.sub [0, 1, 2, 3, 4, 5, 6, 7, 8, 9, 10, 11, 12, 13, 14, 15, 16, 17, 18] rfl) (hK.sub [] rfl) (hD.sub [0, 1, 2, 3, 4, 5, 6, 7, 8, 9, 10, 11, 12, 13, 14, 15, 16, 17, 18] (by decide) rfl) hS dMD_place_165
          · refine lv_aload_n hx hb dMD_place_90 rfl (lv_at hl 4 rfl) ?_
            refine va_get (D := (dC, dI)) (ci := 6) (v := .ref b15) (C := RMD) (T := TMD) (N := 26) hx hb hz in_MD hown hK hP 0 rfl rfl 23 (by decide) (hz _ wd_607) (fun _ h9 => h9) rfl dMD_place_91 ?_
            refine lv_iconst (v := nI 0) hx hb dMD_place_94 (by decide) ?_
            refine lv_iload hx hb dMD_place_95 (lv_at hl 2 rfl) ?_
            refine vp_callSi (W.runS (As := [.ref b15, .int (nI 0), .int (nI (mm 3 k1))]) (rest := []) ⟨hx, hb, hml, hown, hz⟩ (f_MD_sumOf l dC dI b15 kb15 u_10 0 (mm 3 k1) (by omega) (by omega)) (va_cwS 3 hz (z_gS wd_762 wd_763 wd_37 wd_764) rfl rfl rfl (by decide +kernel) ⟨Nat.le_of_ble_eq_true rfl, Nat.le_of_ble_eq_true rfl⟩) (zr_preS hK (hP.sub [16] rfl) [15] rfl z_true (fun _ _ _ => trivial)) rfl rfl hl.1 rfl (lv_room (Nat.le_of_ble_eq_true rfl)) dMD_place_97 ⟨Nat.le_of_ble_eq_true rfl, Nat.le_of_ble_eq_true rfl⟩) (fun r37 h_r37 => ?_)
            refine lv_aload_n hx hb dMD_place_100 rfl (lv_at hl 4 rfl) ?_
            refine va_get (D := (dC, dI)) (ci := 6) (v := .int (nI gp)) (C := RMD) (T := TMD) (N := 26) hx hb hz in_MD hown hK hP 0 rfl rfl 18 (by decide) (hz _ wd_602) (fun _ h9 => h9) rfl dMD_place_101 ?_
            refine lv_iload hx hb dMD_place_104 (lv_at hl 2 rfl) ?_
            refine lv_iconst (v := nI 1) hx hb dMD_place_106 (by decide) ?_
            refine lv_iadd hx hb dMD_place_107 ?_
            refine lv_topi (fun x38 e39 => ?_)
            have e39 : x38 = nI ((mm 3 k1) + 1) := e39.trans (nI_add _ _)
            subst e39
            refine lv_imul hx hb dMD_place_108 ?_
            refine lv_topi (fun x40 e41 => ?_)
            have e41 : x40 = nI (gp * ((mm 3 k1) + 1)) := e41.trans (pk_mul _ _)
            subst e41
            refine lv_iadd hx hb dMD_place_109 ?_
            refine lv_topi (fun y42 _ => ?_)
            subst hQ
            exact zw_iret (D := (dC, dI)) (cl := vwCl) (A := A) (u_4, u_5, u_6, u_10, u_7, u_11) hx hb hr hlocks (trivial) (hP.sub [0, 1, 2, 3, 4, 5, 6, 7, 8, 9, 10, 11, 12, 13, 14, 15, 16, 17, 18] rfl) (hK.sub [] rfl) (hD.sub [0, 1, 2, 3, 4, 5, 6, 7, 8, 9, 10, 11, 12, 13, 14, 15, 16, 17, 18] (by decide) rfl) hS dMD_place_110
        · refine lv_aload_n hx hb dMD_place_66 rfl (lv_at hl 4 rfl) ?_
          refine va_get (D := (dC, dI)) (ci := 6) (v := .ref b14) (C := RMD) (T := TMD) (N := 26) hx hb hz in_MD hown hK hP 0 rfl rfl 22 (by decide) (hz _ wd_606) (fun _ h9 => h9) rfl dMD_place_67 ?_
          refine lv_iconst (v := nI 0) hx hb dMD_place_70 (by decide) ?_
          refine lv_iload_n hx hb dMD_place_71 rfl (lv_at hl 3 rfl) ?_
          refine vp_callSi (W.runS (As := [.ref b14, .int (nI 0), .int (nI (mm 2 k1))]) (rest := []) ⟨hx, hb, hml, hown, hz⟩ (f_MD_sumOf l dC dI b14 kb14 u_6 0 (mm 2 k1) (by omega) (by omega)) (va_cwS 3 hz (z_gS wd_762 wd_763 wd_37 wd_764) rfl rfl rfl (by decide +kernel) ⟨Nat.le_of_ble_eq_true rfl, Nat.le_of_ble_eq_true rfl⟩) (zr_preS hK (hP.sub [15] rfl) [14] rfl z_true (fun _ _ _ => trivial)) rfl rfl hl.1 rfl (lv_room (Nat.le_of_ble_eq_true rfl)) dMD_place_72 ⟨Nat.le_of_ble_eq_true rfl, Nat.le_of_ble_eq_true rfl⟩) (fun r43 h_r43 => ?_)
          refine lv_aload_n hx hb dMD_place_75 rfl (lv_at hl 4 rfl) ?_
          refine va_get (D := (dC, dI)) (ci := 6) (v := .int (nI gp)) (C := RMD) (T := TMD) (N := 26) hx hb hz in_MD hown hK hP 0 rfl rfl 18 (by decide) (hz _ wd_602) (fun _ h9 => h9) rfl dMD_place_76 ?_
          refine lv_iload_n hx hb dMD_place_79 rfl (lv_at hl 3 rfl) ?_
          refine lv_iconst (v := nI 1) hx hb dMD_place_80 (by decide) ?_
          refine lv_iadd hx hb dMD_place_81 ?_
          refine lv_topi (fun x44 e45 => ?_)
          have e45 : x44 = nI ((mm 2 k1) + 1) := e45.trans (nI_add _ _)
          subst e45
          refine lv_imul hx hb dMD_place_82 ?_
          refine lv_topi (fun x46 e47 => ?_)
          have e47 : x46 = nI (gp * ((mm 2 k1) + 1)) := e47.trans (pk_mul _ _)
          subst e47
          refine lv_iadd hx hb dMD_place_83 ?_
          refine lv_topi (fun y48 _ => ?_)
          subst hQ
          exact zw_iret (D := (dC, dI)) (cl := vwCl) (A := A) (u_4, u_5, u_6, u_10, u_7, u_11) hx hb hr hlocks (trivial) (hP.sub [0, 1, 2, 3, 4, 5, 6, 7, 8, 9, 10, 11, 12, 13, 14, 15, 16, 17, 18] rfl) (hK.sub [] rfl) (hD.sub [0, 1, 2, 3, 4, 5, 6, 7, 8, 9, 10, 11, 12, 13, 14, 15, 16, 17, 18] (by decide) rfl) hS dMD_place_84
      · refine lv_iconst (v := (-1)) hx hb dMD_place_17 (by decide) ?_
        subst hQ
        exact zw_iret (D := (dC, dI)) (cl := vwCl) (A := A) (g0, g1, g2, g3, g4, g5) hx hb hr hlocks (trivial) (hP.sub [0, 1, 2, 3, 4, 5, 6, 7, 8, 9, 10, 11, 12, 13, 14, 15, 16, 17, 18] rfl) (hK.sub [] rfl) (hD.sub [0, 1, 2, 3, 4, 5, 6, 7, 8, 9, 10, 11, 12, 13, 14, 15, 16, 17, 18] (by decide) rfl) hS dMD_place_18
