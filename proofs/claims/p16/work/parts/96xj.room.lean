set_option maxHeartbeats 4000000 in
set_option maxRecDepth 100000 in
theorem x_MD_room (l : Launch) (dC : Nat → ClassId) (dI : Nat → Nat → Nat) (h0 : Nat) (b0 : Nat) (b1 : Nat) (b2 : Nat) (b3 : Nat) (b4 : Nat) (b5 : Nat) (b6 : Nat) (b7 : Nat) (b8 : Nat) (b9 : Nat) (b10 : Nat) (b11 : Nat) (b12 : Nat) (b13 : Nat) (b14 : Nat) (b15 : Nat) (b16 : Nat) (b17 : Nat) (kb0 : ClassId) (kb1 : ClassId) (kb2 : ClassId) (kb3 : ClassId) (kb4 : ClassId) (kb5 : ClassId) (kb6 : ClassId) (kb7 : ClassId) (kb8 : ClassId) (kb9 : ClassId) (kb10 : ClassId) (kb11 : ClassId) (mg : Nat) (n : Nat) (rg : Nat) (rn : Nat) (ro : Nat) (sp : Nat) (gp : Nat) (fx : Nat) (mm : Nat → Nat → Nat) (hm : ∀ a k, mm a k ≤ 1000) (hn : n ≤ 40) (hg : 1 ≤ mg ∧ mg ≤ 8 ∧ rg ≤ 8 ∧ rn ≤ 1000 ∧ ro ≤ 1000) (hG : ∀ k, k < n → mm 6 k < 8) (hE : ∀ k, k < n → mm 3 k ≤ zEn mm (mm 6 k) n) (hL : ∀ k, k < n → mm 2 k + mm 4 k ≤ 12 ∧ 1 ≤ mm 4 k) (hs : sp ≤ 10000 ∧ gp ≤ 20) : zp_M l yMD_room wMD_room ({ frames := 1, cells := 0, slots := 0, locals := 22 }) [.ref h0] (dC, dI) vwCl [zob h0 6 [.int (nI mg), .ref b0, .ref b1, .int (nI n), .ref b2, .ref b3, .ref b4, .ref b5, .ref b6, .ref b7, .ref b8, .ref b9, .ref b10, .ref b11, .int (nI rg - nI 1), .int (nI rn), .int (nI ro), .int (nI sp), .int (nI gp), .int (nI fx), .ref b12, .ref b13, .ref b14, .ref b15, .ref b16, .ref b17], zar b0 kb0 8 (fun j => nI (mm 0 j)), zar b1 kb1 8 (fun j => nI (mm 1 j)), zar b2 kb2 40 (fun j => nI (mm 2 j)), zar b3 kb3 40 (fun j => nI (mm 3 j)), zar b4 kb4 40 (fun j => nI (mm 4 j)), zar b5 kb5 40 (fun j => nI (mm 5 j)), zar b6 kb6 40 (fun j => nI (mm 6 j)), zar b7 kb7 40 (fun j => nI (mm 7 j)), zar b8 kb8 40 (fun j => nI (mm 8 j)), zar b9 kb9 40 (fun j => nI (mm 9 j)), zar b10 kb10 40 (fun j => nI (mm 10 j)), zar b11 kb11 40 (fun j => nI (mm 11 j))] [(kb0, .int), (kb1, .int), (kb2, .int), (kb3, .int), (kb4, .int), (kb5, .int), (kb6, .int), (kb7, .int), (kb8, .int), (kb9, .int), (kb10, .int), (kb11, .int)] (fun _ => True) (fun r => r = nI (sp - gp * (zCo mm n + 1))) := by
  refine zp_head (cc := cMD_room) (maxL := 1) (ret := (some .int)) (by decide +kernel) rfl (Nat.le_of_ble_eq_true rfl) ?_
  intro p e s m below meth c ls F hP hK hX hl
  obtain ⟨hx, hb, hml, hr, hlocks, hown, hts⟩ := F
  have hown : s.vm.findClass "SpannedCellsModel" = some m.cls := hown
  have hz : ∀ w9 ∈ zT, w9.before [.ref h0].toArray s = true := fun w9 h => hts w9 (List.mem_cons_of_mem _ h)
  have hl : lv_has ls 1 [(0, .ref h0)] := hl
  refine z_q (fun Q hQ => ?_)
  have hco := zCo_12 (m := mm) (n := n) (fun k hk => (hL k hk).1)
  have hgg : gp * (zCo mm n + 1) ≤ 20 * 13 := Nat.mul_le_mul (by omega) (by omega)
  refine lv_iconst (v := nI 0) hx hb dMD_room_0 (by decide) ?_
  refine lv_aload_n hx hb dMD_room_1 rfl (lv_at hl 0 rfl) ?_
  refine va_get (D := (dC, dI)) (ci := 6) (v := .int (nI sp)) (C := RMD) (T := TMD) (N := 26) hx hb hz in_MD hown hK hP 0 rfl rfl 17 (by decide) (hz _ wd_601) (fun _ h9 => h9) rfl dMD_room_2 ?_
  refine lv_aload_n hx hb dMD_room_5 rfl (lv_at hl 0 rfl) ?_
  refine va_get (D := (dC, dI)) (ci := 6) (v := .int (nI gp)) (C := RMD) (T := TMD) (N := 26) hx hb hz in_MD hown hK hP 0 rfl rfl 18 (by decide) (hz _ wd_602) (fun _ h9 => h9) rfl dMD_room_6 ?_
  refine lv_aload_n hx hb dMD_room_9 rfl (lv_at hl 0 rfl) ?_
  refine vp_callSi (W.runV (As := []) (rest := [.int (nI gp), .int (nI sp), .int (nI 0)]) ⟨hx, hb, hml, hown, hz⟩ (f_MD_columns l dC dI h0 b0 b1 b2 b3 b4 b5 b6 b7 b8 b9 b10 b11 b12 b13 b14 b15 b16 b17 kb0 kb1 kb2 kb3 kb4 kb5 kb6 kb7 kb8 kb9 kb10 kb11 mg n _ rn ro sp gp fx _ (hm) (by omega) (hg) (hG) (hE)) (cwV 0 hz (z_gV wd_732 wd_701 wd_702 wd_37 wd_703) rfl rfl rfl (by decide +kernel) ⟨Nat.le_of_ble_eq_true rfl, Nat.le_of_ble_eq_true rfl⟩) (zr_preV hK (hP.sub [0, 1, 2, 3, 4, 5, 6, 7, 8, 9, 10, 11, 12] rfl) (va_recv (q0 := 0) hK hP (q := (RMD, TMD, 26)) rfl rfl) [0, 1, 2, 3, 4, 5, 6, 7, 8, 9, 10, 11] rfl z_true (fun _ _ _ => trivial)) rfl rfl hl.1 rfl (lv_room (Nat.le_of_ble_eq_true rfl)) dMD_room_10 ⟨Nat.le_of_ble_eq_true rfl, Nat.le_of_ble_eq_true rfl⟩) (fun r1 h_r1 => ?_)
  have h_r1 : r1 = nI (zCo mm n) := h_r1
  subst h_r1
  refine lv_iconst (v := nI 1) hx hb dMD_room_13 (by decide) ?_
  refine lv_iadd hx hb dMD_room_14 ?_
  refine lv_topi (fun x2 e3 => ?_)
  have e3 : x2 = nI ((zCo mm n) + 1) := e3.trans (nI_add _ _)
  subst e3
  refine lv_imul hx hb dMD_room_15 ?_
  refine lv_topi (fun x4 e5 => ?_)
  have e5 : x4 = nI (gp * ((zCo mm n) + 1)) := e5.trans (pk_mul _ _)
  subst e5
  refine lv_isub hx hb dMD_room_16 ?_
  refine vp_callSi (W.runS (As := [.int (nI 0), .int ((nI sp) - (nI (gp * ((zCo mm n) + 1))))]) (rest := []) ⟨hx, hb, hml, hown, hz⟩ (x_MD_greater0 l dC dI ((nI sp) - (nI (gp * ((zCo mm n) + 1)))) ) (va_cwS 2 hz (z_gS wd_755 wd_756 wd_37 wd_757) rfl rfl rfl (by decide +kernel) ⟨Nat.le_of_ble_eq_true rfl, Nat.le_of_ble_eq_true rfl⟩) (zr_preS hK (hP.sub [] rfl) [] rfl z_true (fun _ _ _ => trivial)) rfl rfl hl.1 rfl (lv_room (Nat.le_of_ble_eq_true rfl)) dMD_room_17 ⟨Nat.le_of_ble_eq_true rfl, Nat.le_of_ble_eq_true rfl⟩) (fun r6 h_r6 => ?_)
  have h_r6 : r6 = nI (sp - gp * (zCo mm n + 1)) := z_gr0 (by omega) (by omega) h_r6
  subst h_r6
  subst hQ
  exact zp_iret hx hb hr hlocks (rfl) dMD_room_20
