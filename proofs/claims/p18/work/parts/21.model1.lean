set_option maxHeartbeats 4000000 in
set_option maxRecDepth 100000 in
theorem f_MD_endOf (l : Launch) (dC : Nat → ClassId) (dI : Nat → Nat → Nat) (h0 : Nat) (b0 : Nat) (b1 : Nat) (b2 : Nat) (b3 : Nat) (b4 : Nat) (b5 : Nat) (b6 : Nat) (b7 : Nat) (b8 : Nat) (b9 : Nat) (b10 : Nat) (b11 : Nat) (b12 : Nat) (b13 : Nat) (b14 : Nat) (b15 : Nat) (b16 : Nat) (b17 : Nat) (kb0 : ClassId) (kb1 : ClassId) (kb2 : ClassId) (kb3 : ClassId) (kb4 : ClassId) (kb5 : ClassId) (kb6 : ClassId) (kb7 : ClassId) (kb8 : ClassId) (kb9 : ClassId) (kb10 : ClassId) (kb11 : ClassId) (mg : Nat) (n : Nat) (rg : Nat) (rn : Nat) (ro : Nat) (sp : Nat) (gp : Nat) (fx : Nat) (mm : Nat → Nat → Nat) (g : Nat) (hm : ∀ a k, mm a k ≤ 1000) (hn : n ≤ 40) (hg : 1 ≤ mg ∧ mg ≤ 8 ∧ rg ≤ 8 ∧ rn ≤ 1000 ∧ ro ≤ 1000) (hG : ∀ k, k < n → mm 6 k < 8) (hE : ∀ k, k < n → mm 3 k ≤ zEn mm (mm 6 k) n) (hg8 : g < 8) : zp_M l yMD_endOf wMD_endOf ({ frames := 0, cells := 0, slots := 0, locals := 0 }) [.ref h0, .int (nI g)] (dC, dI) vwCl [zob h0 6 [.int (nI mg), .ref b0, .ref b1, .int (nI n), .ref b2, .ref b3, .ref b4, .ref b5, .ref b6, .ref b7, .ref b8, .ref b9, .ref b10, .ref b11, .int (nI rg - nI 1), .int (nI rn), .int (nI ro), .int (nI sp), .int (nI gp), .int (nI fx), .ref b12, .ref b13, .ref b14, .ref b15, .ref b16, .ref b17], zar b0 kb0 8 (fun j => nI (mm 0 j)), zar b1 kb1 8 (fun j => nI (mm 1 j)), zar b2 kb2 40 (fun j => nI (mm 2 j)), zar b3 kb3 40 (fun j => nI (mm 3 j)), zar b4 kb4 40 (fun j => nI (mm 4 j)), zar b5 kb5 40 (fun j => nI (mm 5 j)), zar b6 kb6 40 (fun j => nI (mm 6 j)), zar b7 kb7 40 (fun j => nI (mm 7 j)), zar b8 kb8 40 (fun j => nI (mm 8 j)), zar b9 kb9 40 (fun j => nI (mm 9 j)), zar b10 kb10 40 (fun j => nI (mm 10 j)), zar b11 kb11 40 (fun j => nI (mm 11 j))] [(kb0, .int), (kb1, .int), (kb2, .int), (kb3, .int), (kb4, .int), (kb5, .int), (kb6, .int), (kb7, .int), (kb8, .int), (kb9, .int), (kb10, .int), (kb11, .int)] (fun _ => True) (fun r => r = nI (zEn mm g n)) := by
  refine zp_head (cc := cMD_endOf) (maxL := 5) (ret := (some .int)) (by decide +kernel) rfl (Nat.le_of_ble_eq_true rfl) ?_
  intro p e s m below meth c ls F hP hK hX hl
  obtain ⟨hx, hb, hml, hr, hlocks, hown, hts⟩ := F
  have hown : s.vm.findClass "SpannedCellsModel" = some m.cls := hown
  have hz : ∀ w9 ∈ zT, w9.before [.ref h0, .int (nI g)].toArray s = true := fun w9 h => hts w9 (List.mem_cons_of_mem _ h)
  have hl : lv_has ls 5 [(0, .ref h0), (1, .int (nI g))] := hl
  refine z_q (fun Q hQ => ?_)
  refine lv_aload_n hx hb dMD_endOf_0 rfl (lv_at hl 0 rfl) ?_
  refine va_get (D := (dC, dI)) (ci := 6) (v := .ref b0) (C := RMD) (T := TMD) (N := 26) hx hb hz in_MD hown hK hP 0 rfl rfl 1 (by decide) (hz _ wd_585) (fun _ h9 => h9) rfl dMD_endOf_1 ?_
  refine lv_iload_n hx hb dMD_endOf_4 rfl (lv_at hl 1 rfl) ?_
  refine va_iald hx hb hK hP 1 0 rfl rfl (vp_in_nI (by omega) (by omega)) dMD_endOf_5 ?_
  refine lv_topi (fun x1 e2 => ?_)
  have e2 : x1 = nI (mm 0 g) := e2.trans (by show nI (mm 0 (nI g).toNatClampNeg) = _; rw [nI_clamp (by omega)])
  subst e2
  refine lv_aload_n hx hb dMD_endOf_6 rfl (lv_at hl 0 rfl) ?_
  refine va_get (D := (dC, dI)) (ci := 6) (v := .ref b1) (C := RMD) (T := TMD) (N := 26) hx hb hz in_MD hown hK hP 0 rfl rfl 2 (by decide) (hz _ wd_586) (fun _ h9 => h9) rfl dMD_endOf_7 ?_
  refine lv_iload_n hx hb dMD_endOf_10 rfl (lv_at hl 1 rfl) ?_
  refine va_iald hx hb hK hP 2 1 rfl rfl (vp_in_nI (by omega) (by omega)) dMD_endOf_11 ?_
  refine lv_topi (fun x3 e4 => ?_)
  have e4 : x3 = nI (mm 1 g) := e4.trans (by show nI (mm 1 (nI g).toNatClampNeg) = _; rw [nI_clamp (by omega)])
  subst e4
  refine lv_iadd hx hb dMD_endOf_12 ?_
  refine lv_topi (fun x5 e6 => ?_)
  have e6 : x5 = nI ((mm 0 g) + (mm 1 g)) := e6.trans (nI_add _ _)
  subst e6
  refine lv_istore_n hx hb dMD_endOf_13 rfl hl (Nat.le_of_ble_eq_true rfl) rfl (fun ls hl => ?_)
  have hl : lv_has ls 5 [(2, .int (nI ((mm 0 g) + (mm 1 g)))), (0, .ref h0), (1, .int (nI g))] := hl
  refine lv_iconst (v := nI 0) hx hb dMD_endOf_14 (by decide) ?_
  refine lv_istore_n hx hb dMD_endOf_15 rfl hl (Nat.le_of_ble_eq_true rfl) rfl (fun ls hl => ?_)
  have hl : lv_has ls 5 [(3, .int (nI 0)), (2, .int (nI ((mm 0 g) + (mm 1 g)))), (0, .ref h0), (1, .int (nI g))] := hl
  refine zl_up (σ := Unit) n (fun i x9 ls => lv_has ls 5 [(3, .int (nI i)), (2, .int (nI (zEn mm g i))), (1, .int (nI g)), (0, .ref h0)]) ?_ ?_ 0 (Nat.zero_le _) () ls (lv_sub hl [0, 1, 3, 2] rfl)
  · intro x9 ls hI
    have hl := hI
    have hl : lv_has ls 5 [(3, .int (nI n)), (2, .int (nI (zEn mm g n))), (1, .int (nI g)), (0, .ref h0)] := hl
    refine lv_iload_n hx hb dMD_endOf_16 rfl (lv_at hl 0 rfl) ?_
    refine lv_aload_n hx hb dMD_endOf_17 rfl (lv_at hl 3 rfl) ?_
    refine va_get (D := (dC, dI)) (ci := 6) (v := .int (nI n)) (C := RMD) (T := TMD) (N := 26) hx hb hz in_MD hown hK hP 0 rfl rfl 3 (by decide) (hz _ wd_587) (fun _ h9 => h9) rfl dMD_endOf_18 ?_
    have t7 := nI_toInt (n := n) (by omega)
    have t8 := nI_toInt (n := n) (by omega)
    refine lv_icmp_ge (tgt := 81) hx hb dMD_endOf_21 rfl (fun _ => ?_) (fun h => by have h := z_nle h; omega)
    refine lv_iload_n hx hb dMD_endOf_81 rfl (lv_at hl 1 rfl) ?_
    subst hQ
    exact zp_iret hx hb hr hlocks (rfl) dMD_endOf_82
  · intro i hi ih
    intro x9 ls hI
    have hl := hI
    have hl : lv_has ls 5 [(3, .int (nI i)), (2, .int (nI (zEn mm g i))), (1, .int (nI g)), (0, .ref h0)] := hl
    refine lv_iload_n hx hb dMD_endOf_16 rfl (lv_at hl 0 rfl) ?_
    refine lv_aload_n hx hb dMD_endOf_17 rfl (lv_at hl 3 rfl) ?_
    refine va_get (D := (dC, dI)) (ci := 6) (v := .int (nI n)) (C := RMD) (T := TMD) (N := 26) hx hb hz in_MD hown hK hP 0 rfl rfl 3 (by decide) (hz _ wd_587) (fun _ h9 => h9) rfl dMD_endOf_18 ?_
    have t9 := nI_toInt (n := i) (by omega)
    have t10 := nI_toInt (n := n) (by omega)
    refine lv_icmp_ge (tgt := 81) hx hb dMD_endOf_21 rfl (fun h => by have h := z_le h; omega) (fun _ => ?_)
    refine lv_aload_n hx hb dMD_endOf_24 rfl (lv_at hl 3 rfl) ?_
    refine va_get (D := (dC, dI)) (ci := 6) (v := .ref b3) (C := RMD) (T := TMD) (N := 26) hx hb hz in_MD hown hK hP 0 rfl rfl 5 (by decide) (hz _ wd_589) (fun _ h9 => h9) rfl dMD_endOf_25 ?_
    refine lv_iload_n hx hb dMD_endOf_28 rfl (lv_at hl 0 rfl) ?_
    refine va_iald hx hb hK hP 4 3 rfl rfl (vp_in_nI (by omega) (by omega)) dMD_endOf_29 ?_
    refine lv_topi (fun x11 e12 => ?_)
    have e12 : x11 = nI (mm 3 i) := e12.trans (by show nI (mm 3 (nI i).toNatClampNeg) = _; rw [nI_clamp (by omega)])
    subst e12
    refine lv_aload_n hx hb dMD_endOf_30 rfl (lv_at hl 3 rfl) ?_
    refine va_get (D := (dC, dI)) (ci := 6) (v := .ref b5) (C := RMD) (T := TMD) (N := 26) hx hb hz in_MD hown hK hP 0 rfl rfl 7 (by decide) (hz _ wd_591) (fun _ h9 => h9) rfl dMD_endOf_31 ?_
    refine lv_iload_n hx hb dMD_endOf_34 rfl (lv_at hl 0 rfl) ?_
    refine va_iald hx hb hK hP 6 5 rfl rfl (vp_in_nI (by omega) (by omega)) dMD_endOf_35 ?_
    refine lv_topi (fun x13 e14 => ?_)
    have e14 : x13 = nI (mm 5 i) := e14.trans (by show nI (mm 5 (nI i).toNatClampNeg) = _; rw [nI_clamp (by omega)])
    subst e14
    refine z_join (fun v1 : Int32 => v1 = nI (zW mm i)) (fun v1 => W p l e ({ frames := 0, cells := 0, slots := 0, locals := 0 }) s m [.ref h0, .int (nI g)].toArray below meth c s.heap [] 0 0 Q (F0 m 49 ls (.int v1 :: [.int (nI (mm 3 i))]))) (fun v1 hv1 => ?_) (fun J49 => ?_)
    · subst hv1
      refine lv_iadd hx hb dMD_endOf_49 ?_
      refine lv_topi (fun x15 e16 => ?_)
      have e16 : x15 = nI ((mm 3 i) + (zW mm i)) := e16.trans (nI_add _ _)
      subst e16
      refine lv_istore hx hb dMD_endOf_50 hl (Nat.le_of_ble_eq_true rfl) rfl (fun ls hl => ?_)
      have hl : lv_has ls 5 [(4, .int (nI ((mm 3 i) + (zW mm i)))), (3, .int (nI i)), (2, .int (nI (zEn mm g i))), (1, .int (nI g)), (0, .ref h0)] := hl
      refine z_join (fun v2 : Int32 => v2 = nI (zEn mm g (i + 1))) (fun v2 => W p l e ({ frames := 0, cells := 0, slots := 0, locals := 0 }) s m [.ref h0, .int (nI g)].toArray below meth c s.heap [] 0 0 Q (F0 m 74 ls (.int v2 :: []))) (fun v2 hv2 => ?_) (fun J74 => ?_)
      · subst hv2
        refine lv_istore_n hx hb dMD_endOf_74 rfl hl (Nat.le_of_ble_eq_true rfl) rfl (fun ls hl => ?_)
        have hl : lv_has ls 5 [(2, .int (nI (zEn mm g (i + 1)))), (4, .int (nI ((mm 3 i) + (zW mm i)))), (3, .int (nI i)), (1, .int (nI g)), (0, .ref h0)] := hl
        refine lv_iinc (k := 2) (v := nI (i + 1)) hx hb dMD_endOf_75 hl rfl (by rw [show Int32.ofInt 1 = nI 1 from by decide]; exact nI_add _ _) (Nat.le_of_ble_eq_true rfl) rfl (fun ls hl => ?_)
        have hl : lv_has ls 5 [(3, .int (nI (i + 1))), (2, .int (nI (zEn mm g (i + 1)))), (4, .int (nI ((mm 3 i) + (zW mm i)))), (1, .int (nI g)), (0, .ref h0)] := hl
        refine lv_goto (tgt := 16) hx hb dMD_endOf_78 rfl ?_
        exact ih () ls (lv_sub hl [0, 1, 3, 4] rfl)
      · refine lv_aload_n hx hb dMD_endOf_52 rfl (lv_at hl 4 rfl) ?_
        refine va_get (D := (dC, dI)) (ci := 6) (v := .ref b6) (C := RMD) (T := TMD) (N := 26) hx hb hz in_MD hown hK hP 0 rfl rfl 8 (by decide) (hz _ wd_592) (fun _ h9 => h9) rfl dMD_endOf_53 ?_
        refine lv_iload_n hx hb dMD_endOf_56 rfl (lv_at hl 1 rfl) ?_
        refine va_iald hx hb hK hP 7 6 rfl rfl (vp_in_nI (by omega) (by omega)) dMD_endOf_57 ?_
        refine lv_topi (fun x17 e18 => ?_)
        have e18 : x17 = nI (mm 6 i) := e18.trans (by show nI (mm 6 (nI i).toNatClampNeg) = _; rw [nI_clamp (by omega)])
        subst e18
        refine lv_iload_n hx hb dMD_endOf_58 rfl (lv_at hl 3 rfl) ?_
        have t19 := hm 6 i
        have t20 := nI_toInt (n := mm 6 i) (by omega)
        have t21 := nI_toInt (n := g) (by omega)
        refine lv_icmp_ne (tgt := 73) hx hb dMD_endOf_59 rfl (fun h22 => ?_) (fun h22 => ?_)
        · have h22 := z_ne h22
          refine lv_iload_n hx hb dMD_endOf_73 rfl (lv_at hl 2 rfl) ?_
          exact J74 _ (by rw [zEn_0 (by omega)])
        · have h22 := z_eq h22
          refine lv_iload hx hb dMD_endOf_62 (lv_at hl 0 rfl) ?_
          refine lv_iload_n hx hb dMD_endOf_64 rfl (lv_at hl 2 rfl) ?_
          have t23 := hm 3 i
          have t24 := zW_le hm i
          have t25 := nI_toInt (n := (mm 3 i) + (zW mm i)) (by omega)
          have t26 := zEn_le hm g i
          have t27 := nI_toInt (n := zEn mm g i) (by omega)
          refine lv_icmp_le (tgt := 73) hx hb dMD_endOf_65 rfl (fun h28 => ?_) (fun h28 => ?_)
          · have h28 := z_le h28
            refine lv_iload_n hx hb dMD_endOf_73 rfl (lv_at hl 2 rfl) ?_
            exact J74 _ (by rw [zEn_0 (by omega)])
          · have h28 := z_nle h28
            refine lv_iload hx hb dMD_endOf_68 (lv_at hl 0 rfl) ?_
            refine lv_goto (tgt := 74) hx hb dMD_endOf_70 rfl ?_
            exact J74 _ (by rw [zEn_1 (by omega) (by omega)])
    · have t29 := hm 5 i
      have t30 := nI_toInt (n := mm 5 i) (by omega)
      have t31 : (0 : Int32).toInt = 0 := by decide
      refine lv_if_le (tgt := 48) hx hb dMD_endOf_36 rfl (fun h32 => ?_) (fun h32 => ?_)
      · have h32 := z_le h32
        refine lv_iconst (v := nI 1) hx hb dMD_endOf_48 (by decide) ?_
        exact J49 _ (by rw [zW_F (by omega)])
      · have h32 := z_nle h32
        refine lv_aload_n hx hb dMD_endOf_39 rfl (lv_at hl 3 rfl) ?_
        refine va_get (D := (dC, dI)) (ci := 6) (v := .ref b5) (C := RMD) (T := TMD) (N := 26) hx hb hz in_MD hown hK hP 0 rfl rfl 7 (by decide) (hz _ wd_591) (fun _ h9 => h9) rfl dMD_endOf_40 ?_
        refine lv_iload_n hx hb dMD_endOf_43 rfl (lv_at hl 0 rfl) ?_
        refine va_iald hx hb hK hP 6 5 rfl rfl (vp_in_nI (by omega) (by omega)) dMD_endOf_44 ?_
        refine lv_topi (fun x33 e34 => ?_)
        have e34 : x33 = nI (mm 5 i) := e34.trans (by show nI (mm 5 (nI i).toNatClampNeg) = _; rw [nI_clamp (by omega)])
        subst e34
        refine lv_goto (tgt := 49) hx hb dMD_endOf_45 rfl ?_
        exact J49 _ (by rw [zW_T (by omega)])

set_option maxHeartbeats 4000000 in
set_option maxRecDepth 100000 in
theorem f_MD_rows (l : Launch) (dC : Nat → ClassId) (dI : Nat → Nat → Nat) (h0 : Nat) (b0 : Nat) (b1 : Nat) (b2 : Nat) (b3 : Nat) (b4 : Nat) (b5 : Nat) (b6 : Nat) (b7 : Nat) (b8 : Nat) (b9 : Nat) (b10 : Nat) (b11 : Nat) (b12 : Nat) (b13 : Nat) (b14 : Nat) (b15 : Nat) (b16 : Nat) (b17 : Nat) (kb0 : ClassId) (kb1 : ClassId) (kb2 : ClassId) (kb3 : ClassId) (kb4 : ClassId) (kb5 : ClassId) (kb6 : ClassId) (kb7 : ClassId) (kb8 : ClassId) (kb9 : ClassId) (kb10 : ClassId) (kb11 : ClassId) (mg : Nat) (n : Nat) (rg : Nat) (rn : Nat) (ro : Nat) (sp : Nat) (gp : Nat) (fx : Nat) (mm : Nat → Nat → Nat) (hm : ∀ a k, mm a k ≤ 1000) (hn : n ≤ 40) (hg : 1 ≤ mg ∧ mg ≤ 8 ∧ rg ≤ 8 ∧ rn ≤ 1000 ∧ ro ≤ 1000) (hG : ∀ k, k < n → mm 6 k < 8) (hE : ∀ k, k < n → mm 3 k ≤ zEn mm (mm 6 k) n) : zp_M l yMD_rows wMD_rows ({ frames := 1, cells := 0, slots := 0, locals := 24 }) [.ref h0] (dC, dI) vwCl [zob h0 6 [.int (nI mg), .ref b0, .ref b1, .int (nI n), .ref b2, .ref b3, .ref b4, .ref b5, .ref b6, .ref b7, .ref b8, .ref b9, .ref b10, .ref b11, .int (nI rg - nI 1), .int (nI rn), .int (nI ro), .int (nI sp), .int (nI gp), .int (nI fx), .ref b12, .ref b13, .ref b14, .ref b15, .ref b16, .ref b17], zar b0 kb0 8 (fun j => nI (mm 0 j)), zar b1 kb1 8 (fun j => nI (mm 1 j)), zar b2 kb2 40 (fun j => nI (mm 2 j)), zar b3 kb3 40 (fun j => nI (mm 3 j)), zar b4 kb4 40 (fun j => nI (mm 4 j)), zar b5 kb5 40 (fun j => nI (mm 5 j)), zar b6 kb6 40 (fun j => nI (mm 6 j)), zar b7 kb7 40 (fun j => nI (mm 7 j)), zar b8 kb8 40 (fun j => nI (mm 8 j)), zar b9 kb9 40 (fun j => nI (mm 9 j)), zar b10 kb10 40 (fun j => nI (mm 10 j)), zar b11 kb11 40 (fun j => nI (mm 11 j))] [(kb0, .int), (kb1, .int), (kb2, .int), (kb3, .int), (kb4, .int), (kb5, .int), (kb6, .int), (kb7, .int), (kb8, .int), (kb9, .int), (kb10, .int), (kb11, .int)] (fun _ => True) (fun r => r = nI (zEn mm (mg - 1) n)) := by
  refine zp_head (cc := cMD_rows) (maxL := 1) (ret := (some .int)) (by decide +kernel) rfl (Nat.le_of_ble_eq_true rfl) ?_
  intro p e s m below meth c ls F hP hK hX hl
  obtain ⟨hx, hb, hml, hr, hlocks, hown, hts⟩ := F
  have hown : s.vm.findClass "SpannedCellsModel" = some m.cls := hown
  have hz : ∀ w9 ∈ zT, w9.before [.ref h0].toArray s = true := fun w9 h => hts w9 (List.mem_cons_of_mem _ h)
  have hl : lv_has ls 1 [(0, .ref h0)] := hl
  refine z_q (fun Q hQ => ?_)
  refine lv_aload_n hx hb dMD_rows_0 rfl (lv_at hl 0 rfl) ?_
  refine lv_aload_n hx hb dMD_rows_1 rfl (lv_at hl 0 rfl) ?_
  refine va_get (D := (dC, dI)) (ci := 6) (v := .int (nI mg)) (C := RMD) (T := TMD) (N := 26) hx hb hz in_MD hown hK hP 0 rfl rfl 0 (by decide) (hz _ wd_584) (fun _ h9 => h9) rfl dMD_rows_2 ?_
  refine lv_iconst (v := nI 1) hx hb dMD_rows_5 (by decide) ?_
  refine lv_isub hx hb dMD_rows_6 ?_
  refine lv_topi (fun x1 e2 => ?_)
  have e2 : x1 = nI (mg - 1) := e2.trans (pk_sub (by omega))
  subst e2
  refine vp_callSi (W.runV (As := [.int (nI (mg - 1))]) (rest := []) ⟨hx, hb, hml, hown, hz⟩ (f_MD_endOf l dC dI h0 b0 b1 b2 b3 b4 b5 b6 b7 b8 b9 b10 b11 b12 b13 b14 b15 b16 b17 kb0 kb1 kb2 kb3 kb4 kb5 kb6 kb7 kb8 kb9 kb10 kb11 mg n _ rn ro sp gp fx _ (mg - 1) (hm) (by omega) (hg) (hG) (hE) (by omega)) (cwV 1 hz (z_gV wd_668 wd_670 wd_13 wd_37 wd_671) rfl rfl rfl (by decide +kernel) ⟨Nat.le_of_ble_eq_true rfl, Nat.le_of_ble_eq_true rfl⟩) (zr_preV hK (hP.sub [0, 1, 2, 3, 4, 5, 6, 7, 8, 9, 10, 11, 12] rfl) (va_recv (q0 := 0) hK hP (q := (RMD, TMD, 26)) rfl rfl) [0, 1, 2, 3, 4, 5, 6, 7, 8, 9, 10, 11] rfl z_true (fun _ _ _ => trivial)) rfl rfl hl.1 rfl (lv_room (Nat.le_of_ble_eq_true rfl)) dMD_rows_7 ⟨Nat.le_of_ble_eq_true rfl, Nat.le_of_ble_eq_true rfl⟩) (fun r3 h_r3 => ?_)
  have h_r3 : r3 = nI (zEn mm (mg - 1) n) := h_r3
  subst h_r3
  subst hQ
  exact zp_iret hx hb hr hlocks (rfl) dMD_rows_10

set_option maxHeartbeats 4000000 in
set_option maxRecDepth 100000 in
theorem f_MD_columns (l : Launch) (dC : Nat → ClassId) (dI : Nat → Nat → Nat) (h0 : Nat) (b0 : Nat) (b1 : Nat) (b2 : Nat) (b3 : Nat) (b4 : Nat) (b5 : Nat) (b6 : Nat) (b7 : Nat) (b8 : Nat) (b9 : Nat) (b10 : Nat) (b11 : Nat) (b12 : Nat) (b13 : Nat) (b14 : Nat) (b15 : Nat) (b16 : Nat) (b17 : Nat) (kb0 : ClassId) (kb1 : ClassId) (kb2 : ClassId) (kb3 : ClassId) (kb4 : ClassId) (kb5 : ClassId) (kb6 : ClassId) (kb7 : ClassId) (kb8 : ClassId) (kb9 : ClassId) (kb10 : ClassId) (kb11 : ClassId) (mg : Nat) (n : Nat) (rg : Nat) (rn : Nat) (ro : Nat) (sp : Nat) (gp : Nat) (fx : Nat) (mm : Nat → Nat → Nat) (hm : ∀ a k, mm a k ≤ 1000) (hn : n ≤ 40) (hg : 1 ≤ mg ∧ mg ≤ 8 ∧ rg ≤ 8 ∧ rn ≤ 1000 ∧ ro ≤ 1000) (hG : ∀ k, k < n → mm 6 k < 8) (hE : ∀ k, k < n → mm 3 k ≤ zEn mm (mm 6 k) n) : zp_M l yMD_columns wMD_columns ({ frames := 0, cells := 0, slots := 0, locals := 0 }) [.ref h0] (dC, dI) vwCl [zob h0 6 [.int (nI mg), .ref b0, .ref b1, .int (nI n), .ref b2, .ref b3, .ref b4, .ref b5, .ref b6, .ref b7, .ref b8, .ref b9, .ref b10, .ref b11, .int (nI rg - nI 1), .int (nI rn), .int (nI ro), .int (nI sp), .int (nI gp), .int (nI fx), .ref b12, .ref b13, .ref b14, .ref b15, .ref b16, .ref b17], zar b0 kb0 8 (fun j => nI (mm 0 j)), zar b1 kb1 8 (fun j => nI (mm 1 j)), zar b2 kb2 40 (fun j => nI (mm 2 j)), zar b3 kb3 40 (fun j => nI (mm 3 j)), zar b4 kb4 40 (fun j => nI (mm 4 j)), zar b5 kb5 40 (fun j => nI (mm 5 j)), zar b6 kb6 40 (fun j => nI (mm 6 j)), zar b7 kb7 40 (fun j => nI (mm 7 j)), zar b8 kb8 40 (fun j => nI (mm 8 j)), zar b9 kb9 40 (fun j => nI (mm 9 j)), zar b10 kb10 40 (fun j => nI (mm 10 j)), zar b11 kb11 40 (fun j => nI (mm 11 j))] [(kb0, .int), (kb1, .int), (kb2, .int), (kb3, .int), (kb4, .int), (kb5, .int), (kb6, .int), (kb7, .int), (kb8, .int), (kb9, .int), (kb10, .int), (kb11, .int)] (fun _ => True) (fun r => r = nI (zCo mm n)) := by
  refine zp_head (cc := cMD_columns) (maxL := 3) (ret := (some .int)) (by decide +kernel) rfl (Nat.le_of_ble_eq_true rfl) ?_
  intro p e s m below meth c ls F hP hK hX hl
  obtain ⟨hx, hb, hml, hr, hlocks, hown, hts⟩ := F
  have hown : s.vm.findClass "SpannedCellsModel" = some m.cls := hown
  have hz : ∀ w9 ∈ zT, w9.before [.ref h0].toArray s = true := fun w9 h => hts w9 (List.mem_cons_of_mem _ h)
  have hl : lv_has ls 3 [(0, .ref h0)] := hl
  refine z_q (fun Q hQ => ?_)
  refine lv_iconst (v := nI 0) hx hb dMD_columns_0 (by decide) ?_
  refine lv_istore_n hx hb dMD_columns_1 rfl hl (Nat.le_of_ble_eq_true rfl) rfl (fun ls hl => ?_)
  have hl : lv_has ls 3 [(1, .int (nI 0)), (0, .ref h0)] := hl
  refine lv_iconst (v := nI 0) hx hb dMD_columns_2 (by decide) ?_
  refine lv_istore_n hx hb dMD_columns_3 rfl hl (Nat.le_of_ble_eq_true rfl) rfl (fun ls hl => ?_)
  have hl : lv_has ls 3 [(2, .int (nI 0)), (1, .int (nI 0)), (0, .ref h0)] := hl
  refine zl_up (σ := Unit) n (fun i x9 ls => lv_has ls 3 [(2, .int (nI i)), (1, .int (nI (zCo mm i))), (0, .ref h0)]) ?_ ?_ 0 (Nat.zero_le _) () ls (lv_sub hl [0, 1, 2] rfl)
  · intro x9 ls hI
    have hl := hI
    have hl : lv_has ls 3 [(2, .int (nI n)), (1, .int (nI (zCo mm n))), (0, .ref h0)] := hl
    refine lv_iload_n hx hb dMD_columns_4 rfl (lv_at hl 0 rfl) ?_
    refine lv_aload_n hx hb dMD_columns_5 rfl (lv_at hl 2 rfl) ?_
    refine va_get (D := (dC, dI)) (ci := 6) (v := .int (nI n)) (C := RMD) (T := TMD) (N := 26) hx hb hz in_MD hown hK hP 0 rfl rfl 3 (by decide) (hz _ wd_587) (fun _ h9 => h9) rfl dMD_columns_6 ?_
    have t1 := nI_toInt (n := n) (by omega)
    have t2 := nI_toInt (n := n) (by omega)
    refine lv_icmp_ge (tgt := 53) hx hb dMD_columns_9 rfl (fun _ => ?_) (fun h => by have h := z_nle h; omega)
    refine lv_iload_n hx hb dMD_columns_53 rfl (lv_at hl 1 rfl) ?_
    subst hQ
    exact zp_iret hx hb hr hlocks (rfl) dMD_columns_54
  · intro i hi ih
    intro x9 ls hI
    have hl := hI
    have hl : lv_has ls 3 [(2, .int (nI i)), (1, .int (nI (zCo mm i))), (0, .ref h0)] := hl
    refine lv_iload_n hx hb dMD_columns_4 rfl (lv_at hl 0 rfl) ?_
    refine lv_aload_n hx hb dMD_columns_5 rfl (lv_at hl 2 rfl) ?_
    refine va_get (D := (dC, dI)) (ci := 6) (v := .int (nI n)) (C := RMD) (T := TMD) (N := 26) hx hb hz in_MD hown hK hP 0 rfl rfl 3 (by decide) (hz _ wd_587) (fun _ h9 => h9) rfl dMD_columns_6 ?_
    have t3 := nI_toInt (n := i) (by omega)
    have t4 := nI_toInt (n := n) (by omega)
    refine lv_icmp_ge (tgt := 53) hx hb dMD_columns_9 rfl (fun h => by have h := z_le h; omega) (fun _ => ?_)
    refine z_join (fun v1 : Int32 => v1 = nI (zCo mm (i + 1))) (fun v1 => W p l e ({ frames := 0, cells := 0, slots := 0, locals := 0 }) s m [.ref h0].toArray below meth c s.heap [] 0 0 Q (F0 m 46 ls (.int v1 :: []))) (fun v1 hv1 => ?_) (fun J46 => ?_)
    · subst hv1
      refine lv_istore_n hx hb dMD_columns_46 rfl hl (Nat.le_of_ble_eq_true rfl) rfl (fun ls hl => ?_)
      have hl : lv_has ls 3 [(1, .int (nI (zCo mm (i + 1)))), (2, .int (nI i)), (0, .ref h0)] := hl
      refine lv_iinc (k := 1) (v := nI (i + 1)) hx hb dMD_columns_47 hl rfl (by rw [show Int32.ofInt 1 = nI 1 from by decide]; exact nI_add _ _) (Nat.le_of_ble_eq_true rfl) rfl (fun ls hl => ?_)
      have hl : lv_has ls 3 [(2, .int (nI (i + 1))), (1, .int (nI (zCo mm (i + 1)))), (0, .ref h0)] := hl
      refine lv_goto (tgt := 4) hx hb dMD_columns_50 rfl ?_
      exact ih () ls (lv_sub hl [0, 1, 2] rfl)
    · refine lv_aload_n hx hb dMD_columns_12 rfl (lv_at hl 2 rfl) ?_
      refine va_get (D := (dC, dI)) (ci := 6) (v := .ref b2) (C := RMD) (T := TMD) (N := 26) hx hb hz in_MD hown hK hP 0 rfl rfl 4 (by decide) (hz _ wd_588) (fun _ h9 => h9) rfl dMD_columns_13 ?_
      refine lv_iload_n hx hb dMD_columns_16 rfl (lv_at hl 0 rfl) ?_
      refine va_iald hx hb hK hP 3 2 rfl rfl (vp_in_nI (by omega) (by omega)) dMD_columns_17 ?_
      refine lv_topi (fun x5 e6 => ?_)
      have e6 : x5 = nI (mm 2 i) := e6.trans (by show nI (mm 2 (nI i).toNatClampNeg) = _; rw [nI_clamp (by omega)])
      subst e6
      refine lv_aload_n hx hb dMD_columns_18 rfl (lv_at hl 2 rfl) ?_
      refine va_get (D := (dC, dI)) (ci := 6) (v := .ref b4) (C := RMD) (T := TMD) (N := 26) hx hb hz in_MD hown hK hP 0 rfl rfl 6 (by decide) (hz _ wd_590) (fun _ h9 => h9) rfl dMD_columns_19 ?_
      refine lv_iload_n hx hb dMD_columns_22 rfl (lv_at hl 0 rfl) ?_
      refine va_iald hx hb hK hP 5 4 rfl rfl (vp_in_nI (by omega) (by omega)) dMD_columns_23 ?_
      refine lv_topi (fun x7 e8 => ?_)
      have e8 : x7 = nI (mm 4 i) := e8.trans (by show nI (mm 4 (nI i).toNatClampNeg) = _; rw [nI_clamp (by omega)])
      subst e8
      refine lv_iadd hx hb dMD_columns_24 ?_
      refine lv_topi (fun x9 e10 => ?_)
      have e10 : x9 = nI ((mm 2 i) + (mm 4 i)) := e10.trans (nI_add _ _)
      subst e10
      refine lv_iload_n hx hb dMD_columns_25 rfl (lv_at hl 1 rfl) ?_
      have t11 := hm 2 i
      have t12 := hm 4 i
      have t13 := nI_toInt (n := (mm 2 i) + (mm 4 i)) (by omega)
      have t14 := zCo_le hm i
      have t15 := nI_toInt (n := zCo mm i) (by omega)
      refine lv_icmp_le (tgt := 45) hx hb dMD_columns_26 rfl (fun h16 => ?_) (fun h16 => ?_)
      · have h16 := z_le h16
        refine lv_iload_n hx hb dMD_columns_45 rfl (lv_at hl 1 rfl) ?_
        exact J46 _ (by rw [zCo_0 (by omega)])
      · have h16 := z_nle h16
        refine lv_aload_n hx hb dMD_columns_29 rfl (lv_at hl 2 rfl) ?_
        refine va_get (D := (dC, dI)) (ci := 6) (v := .ref b2) (C := RMD) (T := TMD) (N := 26) hx hb hz in_MD hown hK hP 0 rfl rfl 4 (by decide) (hz _ wd_588) (fun _ h9 => h9) rfl dMD_columns_30 ?_
        refine lv_iload_n hx hb dMD_columns_33 rfl (lv_at hl 0 rfl) ?_
        refine va_iald hx hb hK hP 3 2 rfl rfl (vp_in_nI (by omega) (by omega)) dMD_columns_34 ?_
        refine lv_topi (fun x17 e18 => ?_)
        have e18 : x17 = nI (mm 2 i) := e18.trans (by show nI (mm 2 (nI i).toNatClampNeg) = _; rw [nI_clamp (by omega)])
        subst e18
        refine lv_aload_n hx hb dMD_columns_35 rfl (lv_at hl 2 rfl) ?_
        refine va_get (D := (dC, dI)) (ci := 6) (v := .ref b4) (C := RMD) (T := TMD) (N := 26) hx hb hz in_MD hown hK hP 0 rfl rfl 6 (by decide) (hz _ wd_590) (fun _ h9 => h9) rfl dMD_columns_36 ?_
        refine lv_iload_n hx hb dMD_columns_39 rfl (lv_at hl 0 rfl) ?_
        refine va_iald hx hb hK hP 5 4 rfl rfl (vp_in_nI (by omega) (by omega)) dMD_columns_40 ?_
        refine lv_topi (fun x19 e20 => ?_)
        have e20 : x19 = nI (mm 4 i) := e20.trans (by show nI (mm 4 (nI i).toNatClampNeg) = _; rw [nI_clamp (by omega)])
        subst e20
        refine lv_iadd hx hb dMD_columns_41 ?_
        refine lv_topi (fun x21 e22 => ?_)
        have e22 : x21 = nI ((mm 2 i) + (mm 4 i)) := e22.trans (nI_add _ _)
        subst e22
        refine lv_goto (tgt := 46) hx hb dMD_columns_42 rfl ?_
        exact J46 _ (by rw [zCo_1 (by omega)])

set_option maxHeartbeats 4000000 in
set_option maxRecDepth 100000 in
theorem f_MD_down (l : Launch) (dC : Nat → ClassId) (dI : Nat → Nat → Nat) (h0 : Nat) (b0 : Nat) (b1 : Nat) (b2 : Nat) (b3 : Nat) (b4 : Nat) (b5 : Nat) (b6 : Nat) (b7 : Nat) (b8 : Nat) (b9 : Nat) (b10 : Nat) (b11 : Nat) (b12 : Nat) (b13 : Nat) (b14 : Nat) (b15 : Nat) (b16 : Nat) (b17 : Nat) (kb0 : ClassId) (kb1 : ClassId) (kb2 : ClassId) (kb3 : ClassId) (kb4 : ClassId) (kb5 : ClassId) (kb6 : ClassId) (kb7 : ClassId) (kb8 : ClassId) (kb9 : ClassId) (kb10 : ClassId) (kb11 : ClassId) (mg : Nat) (n : Nat) (rg : Nat) (rn : Nat) (ro : Nat) (sp : Nat) (gp : Nat) (fx : Nat) (mm : Nat → Nat → Nat) (k : Nat) (hm : ∀ a k, mm a k ≤ 1000) (hn : n ≤ 40) (hg : 1 ≤ mg ∧ mg ≤ 8 ∧ rg ≤ 8 ∧ rn ≤ 1000 ∧ ro ≤ 1000) (hG : ∀ k, k < n → mm 6 k < 8) (hE : ∀ k, k < n → mm 3 k ≤ zEn mm (mm 6 k) n) (hk : k < n) : zp_M l yMD_down wMD_down ({ frames := 1, cells := 0, slots := 0, locals := 24 }) [.ref h0, .int (nI k)] (dC, dI) vwCl [zob h0 6 [.int (nI mg), .ref b0, .ref b1, .int (nI n), .ref b2, .ref b3, .ref b4, .ref b5, .ref b6, .ref b7, .ref b8, .ref b9, .ref b10, .ref b11, .int (nI rg - nI 1), .int (nI rn), .int (nI ro), .int (nI sp), .int (nI gp), .int (nI fx), .ref b12, .ref b13, .ref b14, .ref b15, .ref b16, .ref b17], zar b0 kb0 8 (fun j => nI (mm 0 j)), zar b1 kb1 8 (fun j => nI (mm 1 j)), zar b2 kb2 40 (fun j => nI (mm 2 j)), zar b3 kb3 40 (fun j => nI (mm 3 j)), zar b4 kb4 40 (fun j => nI (mm 4 j)), zar b5 kb5 40 (fun j => nI (mm 5 j)), zar b6 kb6 40 (fun j => nI (mm 6 j)), zar b7 kb7 40 (fun j => nI (mm 7 j)), zar b8 kb8 40 (fun j => nI (mm 8 j)), zar b9 kb9 40 (fun j => nI (mm 9 j)), zar b10 kb10 40 (fun j => nI (mm 10 j)), zar b11 kb11 40 (fun j => nI (mm 11 j))] [(kb0, .int), (kb1, .int), (kb2, .int), (kb3, .int), (kb4, .int), (kb5, .int), (kb6, .int), (kb7, .int), (kb8, .int), (kb9, .int), (kb10, .int), (kb11, .int)] (fun _ => True) (fun r => r = nI (zDn mm n k)) := by
  refine zp_head (cc := cMD_down) (maxL := 2) (ret := (some .int)) (by decide +kernel) rfl (Nat.le_of_ble_eq_true rfl) ?_
  intro p e s m below meth c ls F hP hK hX hl
  obtain ⟨hx, hb, hml, hr, hlocks, hown, hts⟩ := F
  have hown : s.vm.findClass "SpannedCellsModel" = some m.cls := hown
  have hz : ∀ w9 ∈ zT, w9.before [.ref h0, .int (nI k)].toArray s = true := fun w9 h => hts w9 (List.mem_cons_of_mem _ h)
  have hl : lv_has ls 2 [(0, .ref h0), (1, .int (nI k))] := hl
  refine z_q (fun Q hQ => ?_)
  refine lv_aload_n hx hb dMD_down_0 rfl (lv_at hl 0 rfl) ?_
  refine va_get (D := (dC, dI)) (ci := 6) (v := .ref b5) (C := RMD) (T := TMD) (N := 26) hx hb hz in_MD hown hK hP 0 rfl rfl 7 (by decide) (hz _ wd_591) (fun _ h9 => h9) rfl dMD_down_1 ?_
  refine lv_iload_n hx hb dMD_down_4 rfl (lv_at hl 1 rfl) ?_
  refine va_iald hx hb hK hP 6 5 rfl rfl (vp_in_nI (by omega) (by omega)) dMD_down_5 ?_
  refine lv_topi (fun x1 e2 => ?_)
  have e2 : x1 = nI (mm 5 k) := e2.trans (by show nI (mm 5 (nI k).toNatClampNeg) = _; rw [nI_clamp (by omega)])
  subst e2
  have t3 := hm 5 k
  have t4 := nI_toInt (n := mm 5 k) (by omega)
  have t5 : (0 : Int32).toInt = 0 := by decide
  refine lv_if_le (tgt := 18) hx hb dMD_down_6 rfl (fun h6 => ?_) (fun h6 => ?_)
  · have h6 := z_le h6
    refine lv_aload_n hx hb dMD_down_18 rfl (lv_at hl 0 rfl) ?_
    refine lv_aload_n hx hb dMD_down_19 rfl (lv_at hl 0 rfl) ?_
    refine va_get (D := (dC, dI)) (ci := 6) (v := .ref b6) (C := RMD) (T := TMD) (N := 26) hx hb hz in_MD hown hK hP 0 rfl rfl 8 (by decide) (hz _ wd_592) (fun _ h9 => h9) rfl dMD_down_20 ?_
    refine lv_iload_n hx hb dMD_down_23 rfl (lv_at hl 1 rfl) ?_
    refine va_iald hx hb hK hP 7 6 rfl rfl (vp_in_nI (by omega) (by omega)) dMD_down_24 ?_
    refine lv_topi (fun x7 e8 => ?_)
    have e8 : x7 = nI (mm 6 k) := e8.trans (by show nI (mm 6 (nI k).toNatClampNeg) = _; rw [nI_clamp (by omega)])
    subst e8
    refine vp_callSi (W.runV (As := [.int (nI (mm 6 k))]) (rest := []) ⟨hx, hb, hml, hown, hz⟩ (f_MD_endOf l dC dI h0 b0 b1 b2 b3 b4 b5 b6 b7 b8 b9 b10 b11 b12 b13 b14 b15 b16 b17 kb0 kb1 kb2 kb3 kb4 kb5 kb6 kb7 kb8 kb9 kb10 kb11 mg n _ rn ro sp gp fx _ (mm 6 k) (hm) (by omega) (hg) (hG) (hE) (hG k hk)) (cwV 1 hz (z_gV wd_668 wd_670 wd_13 wd_37 wd_671) rfl rfl rfl (by decide +kernel) ⟨Nat.le_of_ble_eq_true rfl, Nat.le_of_ble_eq_true rfl⟩) (zr_preV hK (hP.sub [0, 1, 2, 3, 4, 5, 6, 7, 8, 9, 10, 11, 12] rfl) (va_recv (q0 := 0) hK hP (q := (RMD, TMD, 26)) rfl rfl) [0, 1, 2, 3, 4, 5, 6, 7, 8, 9, 10, 11] rfl z_true (fun _ _ _ => trivial)) rfl rfl hl.1 rfl (lv_room (Nat.le_of_ble_eq_true rfl)) dMD_down_25 ⟨Nat.le_of_ble_eq_true rfl, Nat.le_of_ble_eq_true rfl⟩) (fun r9 h_r9 => ?_)
    have h_r9 : r9 = nI (zEn mm (mm 6 k) n) := h_r9
    subst h_r9
    refine lv_aload_n hx hb dMD_down_28 rfl (lv_at hl 0 rfl) ?_
    refine va_get (D := (dC, dI)) (ci := 6) (v := .ref b3) (C := RMD) (T := TMD) (N := 26) hx hb hz in_MD hown hK hP 0 rfl rfl 5 (by decide) (hz _ wd_589) (fun _ h9 => h9) rfl dMD_down_29 ?_
    refine lv_iload_n hx hb dMD_down_32 rfl (lv_at hl 1 rfl) ?_
    refine va_iald hx hb hK hP 4 3 rfl rfl (vp_in_nI (by omega) (by omega)) dMD_down_33 ?_
    refine lv_topi (fun x10 e11 => ?_)
    have e11 : x10 = nI (mm 3 k) := e11.trans (by show nI (mm 3 (nI k).toNatClampNeg) = _; rw [nI_clamp (by omega)])
    subst e11
    refine lv_isub hx hb dMD_down_34 ?_
    refine lv_topi (fun x12 e13 => ?_)
    have e13 : x12 = nI (zEn mm (mm 6 k) n - mm 3 k) := e13.trans (pk_sub (hE k hk))
    subst e13
    subst hQ
    exact zp_iret hx hb hr hlocks (by rw [zDn_F (by omega)]) dMD_down_35
  · have h6 := z_nle h6
    refine lv_aload_n hx hb dMD_down_9 rfl (lv_at hl 0 rfl) ?_
    refine va_get (D := (dC, dI)) (ci := 6) (v := .ref b5) (C := RMD) (T := TMD) (N := 26) hx hb hz in_MD hown hK hP 0 rfl rfl 7 (by decide) (hz _ wd_591) (fun _ h9 => h9) rfl dMD_down_10 ?_
    refine lv_iload_n hx hb dMD_down_13 rfl (lv_at hl 1 rfl) ?_
    refine va_iald hx hb hK hP 6 5 rfl rfl (vp_in_nI (by omega) (by omega)) dMD_down_14 ?_
    refine lv_topi (fun x14 e15 => ?_)
    have e15 : x14 = nI (mm 5 k) := e15.trans (by show nI (mm 5 (nI k).toNatClampNeg) = _; rw [nI_clamp (by omega)])
    subst e15
    refine lv_goto (tgt := 35) hx hb dMD_down_15 rfl ?_
    subst hQ
    exact zp_iret hx hb hr hlocks (by rw [zDn_T (by omega)]) dMD_down_35

set_option maxHeartbeats 4000000 in
set_option maxRecDepth 100000 in
theorem f_MD_takes (l : Launch) (dC : Nat → ClassId) (dI : Nat → Nat → Nat) (h0 : Nat) (b0 : Nat) (b1 : Nat) (b2 : Nat) (b3 : Nat) (b4 : Nat) (b5 : Nat) (b6 : Nat) (b7 : Nat) (b8 : Nat) (b9 : Nat) (b10 : Nat) (b11 : Nat) (b12 : Nat) (b13 : Nat) (b14 : Nat) (b15 : Nat) (b16 : Nat) (b17 : Nat) (kb0 : ClassId) (kb1 : ClassId) (kb2 : ClassId) (kb3 : ClassId) (kb4 : ClassId) (kb5 : ClassId) (kb6 : ClassId) (kb7 : ClassId) (kb8 : ClassId) (kb9 : ClassId) (kb10 : ClassId) (kb11 : ClassId) (mg : Nat) (n : Nat) (rg : Nat) (rn : Nat) (ro : Nat) (sp : Nat) (gp : Nat) (fx : Nat) (mm : Nat → Nat → Nat) (k : Nat) (x : Int32) (y : Int32) (hm : ∀ a k, mm a k ≤ 1000) (hn : n ≤ 40) (hg : 1 ≤ mg ∧ mg ≤ 8 ∧ rg ≤ 8 ∧ rn ≤ 1000 ∧ ro ≤ 1000) (hG : ∀ k, k < n → mm 6 k < 8) (hE : ∀ k, k < n → mm 3 k ≤ zEn mm (mm 6 k) n) (hk : k < n) : zp_M l yMD_takes wMD_takes ({ frames := 2, cells := 0, slots := 0, locals := 45 }) [.ref h0, .int (nI k), .int x, .int y] (dC, dI) vwCl [zob h0 6 [.int (nI mg), .ref b0, .ref b1, .int (nI n), .ref b2, .ref b3, .ref b4, .ref b5, .ref b6, .ref b7, .ref b8, .ref b9, .ref b10, .ref b11, .int (nI rg - nI 1), .int (nI rn), .int (nI ro), .int (nI sp), .int (nI gp), .int (nI fx), .ref b12, .ref b13, .ref b14, .ref b15, .ref b16, .ref b17], zar b0 kb0 8 (fun j => nI (mm 0 j)), zar b1 kb1 8 (fun j => nI (mm 1 j)), zar b2 kb2 40 (fun j => nI (mm 2 j)), zar b3 kb3 40 (fun j => nI (mm 3 j)), zar b4 kb4 40 (fun j => nI (mm 4 j)), zar b5 kb5 40 (fun j => nI (mm 5 j)), zar b6 kb6 40 (fun j => nI (mm 6 j)), zar b7 kb7 40 (fun j => nI (mm 7 j)), zar b8 kb8 40 (fun j => nI (mm 8 j)), zar b9 kb9 40 (fun j => nI (mm 9 j)), zar b10 kb10 40 (fun j => nI (mm 10 j)), zar b11 kb11 40 (fun j => nI (mm 11 j))] [(kb0, .int), (kb1, .int), (kb2, .int), (kb3, .int), (kb4, .int), (kb5, .int), (kb6, .int), (kb7, .int), (kb8, .int), (kb9, .int), (kb10, .int), (kb11, .int)] (fun _ => True) (fun r => z_yn r (zTk (mm 2 k) (mm 4 k) (mm 3 k) (zDn mm n k) x y)) := by
  refine zp_head (cc := cMD_takes) (maxL := 4) (ret := (some .boolean)) (by decide +kernel) rfl (Nat.le_of_ble_eq_true rfl) ?_
  intro p e s m below meth c ls F hP hK hX hl
  obtain ⟨hx, hb, hml, hr, hlocks, hown, hts⟩ := F
  have hown : s.vm.findClass "SpannedCellsModel" = some m.cls := hown
  have hz : ∀ w9 ∈ zT, w9.before [.ref h0, .int (nI k), .int x, .int y].toArray s = true := fun w9 h => hts w9 (List.mem_cons_of_mem _ h)
  have hl : lv_has ls 4 [(0, .ref h0), (1, .int (nI k)), (2, .int x), (3, .int y)] := hl
  refine z_q (fun Q hQ => ?_)
  refine lv_iload_n hx hb dMD_takes_0 rfl (lv_at hl 2 rfl) ?_
  refine lv_aload_n hx hb dMD_takes_1 rfl (lv_at hl 0 rfl) ?_
  refine va_get (D := (dC, dI)) (ci := 6) (v := .ref b2) (C := RMD) (T := TMD) (N := 26) hx hb hz in_MD hown hK hP 0 rfl rfl 4 (by decide) (hz _ wd_588) (fun _ h9 => h9) rfl dMD_takes_2 ?_
  refine lv_iload_n hx hb dMD_takes_5 rfl (lv_at hl 1 rfl) ?_
  refine va_iald hx hb hK hP 3 2 rfl rfl (vp_in_nI (by omega) (by omega)) dMD_takes_6 ?_
  refine lv_topi (fun x1 e2 => ?_)
  have e2 : x1 = nI (mm 2 k) := e2.trans (by show nI (mm 2 (nI k).toNatClampNeg) = _; rw [nI_clamp (by omega)])
  subst e2
  have t3 := hm 2 k
  have t4 := nI_toInt (n := mm 2 k) (by omega)
  refine lv_icmp_lt (tgt := 57) hx hb dMD_takes_7 rfl (fun h5 => ?_) (fun h5 => ?_)
  · have h5 := z_lt h5
    refine lv_iconst (v := nI 0) hx hb dMD_takes_57 (by decide) ?_
    subst hQ
    exact zp_zret hx hb hr hlocks (Or.inl rfl) (z_tk0 (by omega)) dMD_takes_58
  · have h5 := z_nlt h5
    refine lv_iload_n hx hb dMD_takes_10 rfl (lv_at hl 2 rfl) ?_
    refine lv_aload_n hx hb dMD_takes_11 rfl (lv_at hl 0 rfl) ?_
    refine va_get (D := (dC, dI)) (ci := 6) (v := .ref b2) (C := RMD) (T := TMD) (N := 26) hx hb hz in_MD hown hK hP 0 rfl rfl 4 (by decide) (hz _ wd_588) (fun _ h9 => h9) rfl dMD_takes_12 ?_
    refine lv_iload_n hx hb dMD_takes_15 rfl (lv_at hl 1 rfl) ?_
    refine va_iald hx hb hK hP 3 2 rfl rfl (vp_in_nI (by omega) (by omega)) dMD_takes_16 ?_
    refine lv_topi (fun x6 e7 => ?_)
    have e7 : x6 = nI (mm 2 k) := e7.trans (by show nI (mm 2 (nI k).toNatClampNeg) = _; rw [nI_clamp (by omega)])
    subst e7
    refine lv_aload_n hx hb dMD_takes_17 rfl (lv_at hl 0 rfl) ?_
    refine va_get (D := (dC, dI)) (ci := 6) (v := .ref b4) (C := RMD) (T := TMD) (N := 26) hx hb hz in_MD hown hK hP 0 rfl rfl 6 (by decide) (hz _ wd_590) (fun _ h9 => h9) rfl dMD_takes_18 ?_
    refine lv_iload_n hx hb dMD_takes_21 rfl (lv_at hl 1 rfl) ?_
    refine va_iald hx hb hK hP 5 4 rfl rfl (vp_in_nI (by omega) (by omega)) dMD_takes_22 ?_
    refine lv_topi (fun x8 e9 => ?_)
    have e9 : x8 = nI (mm 4 k) := e9.trans (by show nI (mm 4 (nI k).toNatClampNeg) = _; rw [nI_clamp (by omega)])
    subst e9
    refine lv_iadd hx hb dMD_takes_23 ?_
    refine lv_topi (fun x10 e11 => ?_)
    have e11 : x10 = nI ((mm 2 k) + (mm 4 k)) := e11.trans (nI_add _ _)
    subst e11
    have t12 := hm 2 k
    have t13 := hm 4 k
    have t14 := nI_toInt (n := (mm 2 k) + (mm 4 k)) (by omega)
    refine lv_icmp_ge (tgt := 57) hx hb dMD_takes_24 rfl (fun h15 => ?_) (fun h15 => ?_)
    · have h15 := z_le h15
      refine lv_iconst (v := nI 0) hx hb dMD_takes_57 (by decide) ?_
      subst hQ
      exact zp_zret hx hb hr hlocks (Or.inl rfl) (z_tk0 (by omega)) dMD_takes_58
    · have h15 := z_nle h15
      refine lv_iload_n hx hb dMD_takes_27 rfl (lv_at hl 3 rfl) ?_
      refine lv_aload_n hx hb dMD_takes_28 rfl (lv_at hl 0 rfl) ?_
      refine va_get (D := (dC, dI)) (ci := 6) (v := .ref b3) (C := RMD) (T := TMD) (N := 26) hx hb hz in_MD hown hK hP 0 rfl rfl 5 (by decide) (hz _ wd_589) (fun _ h9 => h9) rfl dMD_takes_29 ?_
      refine lv_iload_n hx hb dMD_takes_32 rfl (lv_at hl 1 rfl) ?_
      refine va_iald hx hb hK hP 4 3 rfl rfl (vp_in_nI (by omega) (by omega)) dMD_takes_33 ?_
      refine lv_topi (fun x16 e17 => ?_)
      have e17 : x16 = nI (mm 3 k) := e17.trans (by show nI (mm 3 (nI k).toNatClampNeg) = _; rw [nI_clamp (by omega)])
      subst e17
      have t18 := hm 3 k
      have t19 := nI_toInt (n := mm 3 k) (by omega)
      refine lv_icmp_lt (tgt := 57) hx hb dMD_takes_34 rfl (fun h20 => ?_) (fun h20 => ?_)
      · have h20 := z_lt h20
        refine lv_iconst (v := nI 0) hx hb dMD_takes_57 (by decide) ?_
        subst hQ
        exact zp_zret hx hb hr hlocks (Or.inl rfl) (z_tk0 (by omega)) dMD_takes_58
      · have h20 := z_nlt h20
        refine lv_iload_n hx hb dMD_takes_37 rfl (lv_at hl 3 rfl) ?_
        refine lv_aload_n hx hb dMD_takes_38 rfl (lv_at hl 0 rfl) ?_
        refine va_get (D := (dC, dI)) (ci := 6) (v := .ref b3) (C := RMD) (T := TMD) (N := 26) hx hb hz in_MD hown hK hP 0 rfl rfl 5 (by decide) (hz _ wd_589) (fun _ h9 => h9) rfl dMD_takes_39 ?_
        refine lv_iload_n hx hb dMD_takes_42 rfl (lv_at hl 1 rfl) ?_
        refine va_iald hx hb hK hP 4 3 rfl rfl (vp_in_nI (by omega) (by omega)) dMD_takes_43 ?_
        refine lv_topi (fun x21 e22 => ?_)
        have e22 : x21 = nI (mm 3 k) := e22.trans (by show nI (mm 3 (nI k).toNatClampNeg) = _; rw [nI_clamp (by omega)])
        subst e22
        refine lv_aload_n hx hb dMD_takes_44 rfl (lv_at hl 0 rfl) ?_
        refine lv_iload_n hx hb dMD_takes_45 rfl (lv_at hl 1 rfl) ?_
        refine vp_callSi (W.runV (As := [.int (nI k)]) (rest := [.int (nI (mm 3 k)), .int y]) ⟨hx, hb, hml, hown, hz⟩ (f_MD_down l dC dI h0 b0 b1 b2 b3 b4 b5 b6 b7 b8 b9 b10 b11 b12 b13 b14 b15 b16 b17 kb0 kb1 kb2 kb3 kb4 kb5 kb6 kb7 kb8 kb9 kb10 kb11 mg n _ rn ro sp gp fx _ k (hm) (by omega) (hg) (hG) (hE) (by omega)) (cwV 1 hz (z_gV wd_716 wd_718 wd_17 wd_37 wd_719) rfl rfl rfl (by decide +kernel) ⟨Nat.le_of_ble_eq_true rfl, Nat.le_of_ble_eq_true rfl⟩) (zr_preV hK (hP.sub [0, 1, 2, 3, 4, 5, 6, 7, 8, 9, 10, 11, 12] rfl) (va_recv (q0 := 0) hK hP (q := (RMD, TMD, 26)) rfl rfl) [0, 1, 2, 3, 4, 5, 6, 7, 8, 9, 10, 11] rfl z_true (fun _ _ _ => trivial)) rfl rfl hl.1 rfl (lv_room (Nat.le_of_ble_eq_true rfl)) dMD_takes_46 ⟨Nat.le_of_ble_eq_true rfl, Nat.le_of_ble_eq_true rfl⟩) (fun r23 h_r23 => ?_)
        have h_r23 : r23 = nI (zDn mm n k) := h_r23
        subst h_r23
        refine lv_iadd hx hb dMD_takes_49 ?_
        refine lv_topi (fun x24 e25 => ?_)
        have e25 : x24 = nI ((mm 3 k) + (zDn mm n k)) := e25.trans (nI_add _ _)
        subst e25
        have t26 := hm 3 k
        have t27 := zDn_le hm n k
        have t28 := nI_toInt (n := (mm 3 k) + (zDn mm n k)) (by omega)
        refine lv_icmp_ge (tgt := 57) hx hb dMD_takes_50 rfl (fun h29 => ?_) (fun h29 => ?_)
        · have h29 := z_le h29
          refine lv_iconst (v := nI 0) hx hb dMD_takes_57 (by decide) ?_
          subst hQ
          exact zp_zret hx hb hr hlocks (Or.inl rfl) (z_tk0 (by omega)) dMD_takes_58
        · have h29 := z_nle h29
          refine lv_iconst (v := nI 1) hx hb dMD_takes_53 (by decide) ?_
          refine lv_goto (tgt := 58) hx hb dMD_takes_54 rfl ?_
          subst hQ
          exact zp_zret hx hb hr hlocks (Or.inr rfl) (z_tk1 (by omega)) dMD_takes_58

set_option maxHeartbeats 4000000 in
set_option maxRecDepth 100000 in
theorem f_MD_isCell (l : Launch) (dC : Nat → ClassId) (dI : Nat → Nat → Nat) (h0 : Nat) (b0 : Nat) (b1 : Nat) (b2 : Nat) (b3 : Nat) (b4 : Nat) (b5 : Nat) (b6 : Nat) (b7 : Nat) (b8 : Nat) (b9 : Nat) (b10 : Nat) (b11 : Nat) (b12 : Nat) (b13 : Nat) (b14 : Nat) (b15 : Nat) (b16 : Nat) (b17 : Nat) (kb0 : ClassId) (kb1 : ClassId) (kb2 : ClassId) (kb3 : ClassId) (kb4 : ClassId) (kb5 : ClassId) (kb6 : ClassId) (kb7 : ClassId) (kb8 : ClassId) (kb9 : ClassId) (kb10 : ClassId) (kb11 : ClassId) (mg : Nat) (n : Nat) (rg : Nat) (rn : Nat) (ro : Nat) (sp : Nat) (gp : Nat) (fx : Nat) (mm : Nat → Nat → Nat) (k : Int32) (hm : ∀ a k, mm a k ≤ 1000) (hn : n ≤ 40) (hg : 1 ≤ mg ∧ mg ≤ 8 ∧ rg ≤ 8 ∧ rn ≤ 1000 ∧ ro ≤ 1000) (hG : ∀ k, k < n → mm 6 k < 8) (hE : ∀ k, k < n → mm 3 k ≤ zEn mm (mm 6 k) n) : zp_M l yMD_isCell wMD_isCell ({ frames := 0, cells := 0, slots := 0, locals := 0 }) [.ref h0, .int k] (dC, dI) vwCl [zob h0 6 [.int (nI mg), .ref b0, .ref b1, .int (nI n), .ref b2, .ref b3, .ref b4, .ref b5, .ref b6, .ref b7, .ref b8, .ref b9, .ref b10, .ref b11, .int (nI rg - nI 1), .int (nI rn), .int (nI ro), .int (nI sp), .int (nI gp), .int (nI fx), .ref b12, .ref b13, .ref b14, .ref b15, .ref b16, .ref b17], zar b0 kb0 8 (fun j => nI (mm 0 j)), zar b1 kb1 8 (fun j => nI (mm 1 j)), zar b2 kb2 40 (fun j => nI (mm 2 j)), zar b3 kb3 40 (fun j => nI (mm 3 j)), zar b4 kb4 40 (fun j => nI (mm 4 j)), zar b5 kb5 40 (fun j => nI (mm 5 j)), zar b6 kb6 40 (fun j => nI (mm 6 j)), zar b7 kb7 40 (fun j => nI (mm 7 j)), zar b8 kb8 40 (fun j => nI (mm 8 j)), zar b9 kb9 40 (fun j => nI (mm 9 j)), zar b10 kb10 40 (fun j => nI (mm 10 j)), zar b11 kb11 40 (fun j => nI (mm 11 j))] [(kb0, .int), (kb1, .int), (kb2, .int), (kb3, .int), (kb4, .int), (kb5, .int), (kb6, .int), (kb7, .int), (kb8, .int), (kb9, .int), (kb10, .int), (kb11, .int)] (fun _ => True) (fun r => z_yn r (0 ≤ k.toInt ∧ k.toInt < n)) := by
  refine zp_head (cc := cMD_isCell) (maxL := 2) (ret := (some .boolean)) (by decide +kernel) rfl (Nat.le_of_ble_eq_true rfl) ?_
  intro p e s m below meth c ls F hP hK hX hl
  obtain ⟨hx, hb, hml, hr, hlocks, hown, hts⟩ := F
  have hown : s.vm.findClass "SpannedCellsModel" = some m.cls := hown
  have hz : ∀ w9 ∈ zT, w9.before [.ref h0, .int k].toArray s = true := fun w9 h => hts w9 (List.mem_cons_of_mem _ h)
  have hl : lv_has ls 2 [(0, .ref h0), (1, .int k)] := hl
  refine z_q (fun Q hQ => ?_)
  refine lv_iload_n hx hb dMD_isCell_0 rfl (lv_at hl 1 rfl) ?_
  have t1 : (0 : Int32).toInt = 0 := by decide
  refine lv_if_lt (tgt := 16) hx hb dMD_isCell_1 rfl (fun h2 => ?_) (fun h2 => ?_)
  · have h2 := z_lt h2
    refine lv_iconst (v := nI 0) hx hb dMD_isCell_16 (by decide) ?_
    subst hQ
    exact zp_zret hx hb hr hlocks (Or.inl rfl) (z_y0 (by omega)) dMD_isCell_17
  · have h2 := z_nlt h2
    refine lv_iload_n hx hb dMD_isCell_4 rfl (lv_at hl 1 rfl) ?_
    refine lv_aload_n hx hb dMD_isCell_5 rfl (lv_at hl 0 rfl) ?_
    refine va_get (D := (dC, dI)) (ci := 6) (v := .int (nI n)) (C := RMD) (T := TMD) (N := 26) hx hb hz in_MD hown hK hP 0 rfl rfl 3 (by decide) (hz _ wd_587) (fun _ h9 => h9) rfl dMD_isCell_6 ?_
    have t3 := nI_toInt (n := n) (by omega)
    refine lv_icmp_ge (tgt := 16) hx hb dMD_isCell_9 rfl (fun h4 => ?_) (fun h4 => ?_)
    · have h4 := z_le h4
      refine lv_iconst (v := nI 0) hx hb dMD_isCell_16 (by decide) ?_
      subst hQ
      exact zp_zret hx hb hr hlocks (Or.inl rfl) (z_y0 (by omega)) dMD_isCell_17
    · have h4 := z_nle h4
      refine lv_iconst (v := nI 1) hx hb dMD_isCell_12 (by decide) ?_
      refine lv_goto (tgt := 17) hx hb dMD_isCell_13 rfl ?_
      subst hQ
      exact zp_zret hx hb hr hlocks (Or.inr rfl) (z_y1 (by omega)) dMD_isCell_17
