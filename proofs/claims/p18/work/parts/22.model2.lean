set_option maxHeartbeats 4000000 in
set_option maxRecDepth 100000 in
theorem f_MD_isTaken (l : Launch) (dC : Nat → ClassId) (dI : Nat → Nat → Nat) (h0 : Nat) (b0 : Nat) (b1 : Nat) (b2 : Nat) (b3 : Nat) (b4 : Nat) (b5 : Nat) (b6 : Nat) (b7 : Nat) (b8 : Nat) (b9 : Nat) (b10 : Nat) (b11 : Nat) (b12 : Nat) (b13 : Nat) (b14 : Nat) (b15 : Nat) (b16 : Nat) (b17 : Nat) (kb0 : ClassId) (kb1 : ClassId) (kb2 : ClassId) (kb3 : ClassId) (kb4 : ClassId) (kb5 : ClassId) (kb6 : ClassId) (kb7 : ClassId) (kb8 : ClassId) (kb9 : ClassId) (kb10 : ClassId) (kb11 : ClassId) (mg : Nat) (n : Nat) (rg : Nat) (rn : Nat) (ro : Nat) (sp : Nat) (gp : Nat) (fx : Nat) (mm : Nat → Nat → Nat) (x : Nat) (hm : ∀ a k, mm a k ≤ 1000) (hn : n ≤ 40) (hg : 1 ≤ mg ∧ mg ≤ 8 ∧ rg ≤ 8 ∧ rn ≤ 1000 ∧ ro ≤ 1000) (hG : ∀ k, k < n → mm 6 k < 8) (hE : ∀ k, k < n → mm 3 k ≤ zEn mm (mm 6 k) n) (hx0 : x < 2147483648) : zp_M l yMD_isTaken wMD_isTaken ({ frames := 0, cells := 0, slots := 0, locals := 0 }) [.ref h0, .int (nI x)] (dC, dI) vwCl [zob h0 6 [.int (nI mg), .ref b0, .ref b1, .int (nI n), .ref b2, .ref b3, .ref b4, .ref b5, .ref b6, .ref b7, .ref b8, .ref b9, .ref b10, .ref b11, .int (nI rg - nI 1), .int (nI rn), .int (nI ro), .int (nI sp), .int (nI gp), .int (nI fx), .ref b12, .ref b13, .ref b14, .ref b15, .ref b16, .ref b17], zar b0 kb0 8 (fun j => nI (mm 0 j)), zar b1 kb1 8 (fun j => nI (mm 1 j)), zar b2 kb2 40 (fun j => nI (mm 2 j)), zar b3 kb3 40 (fun j => nI (mm 3 j)), zar b4 kb4 40 (fun j => nI (mm 4 j)), zar b5 kb5 40 (fun j => nI (mm 5 j)), zar b6 kb6 40 (fun j => nI (mm 6 j)), zar b7 kb7 40 (fun j => nI (mm 7 j)), zar b8 kb8 40 (fun j => nI (mm 8 j)), zar b9 kb9 40 (fun j => nI (mm 9 j)), zar b10 kb10 40 (fun j => nI (mm 10 j)), zar b11 kb11 40 (fun j => nI (mm 11 j))] [(kb0, .int), (kb1, .int), (kb2, .int), (kb3, .int), (kb4, .int), (kb5, .int), (kb6, .int), (kb7, .int), (kb8, .int), (kb9, .int), (kb10, .int), (kb11, .int)] (fun _ => True) (fun r => z_yn r (∃ k, k < n ∧ zIt mm rg rn x k)) := by
  refine zp_head (cc := cMD_isTaken) (maxL := 5) (ret := (some .boolean)) (by decide +kernel) rfl (Nat.le_of_ble_eq_true rfl) ?_
  intro p e s m below meth c ls F hP hK hX hl
  obtain ⟨hx, hb, hml, hr, hlocks, hown, hts⟩ := F
  have hown : s.vm.findClass "SpannedCellsModel" = some m.cls := hown
  have hz : ∀ w9 ∈ zT, w9.before [.ref h0, .int (nI x)].toArray s = true := fun w9 h => hts w9 (List.mem_cons_of_mem _ h)
  have hl : lv_has ls 5 [(0, .ref h0), (1, .int (nI x))] := hl
  refine z_q (fun Q hQ => ?_)
  refine lv_iconst (v := nI 0) hx hb dMD_isTaken_0 (by decide) ?_
  refine lv_istore_n hx hb dMD_isTaken_1 rfl hl (Nat.le_of_ble_eq_true rfl) rfl (fun ls hl => ?_)
  have hl : lv_has ls 5 [(2, .int (nI 0)), (0, .ref h0), (1, .int (nI x))] := hl
  refine lv_iconst (v := nI 0) hx hb dMD_isTaken_2 (by decide) ?_
  refine lv_istore_n hx hb dMD_isTaken_3 rfl hl (Nat.le_of_ble_eq_true rfl) rfl (fun ls hl => ?_)
  have hl : lv_has ls 5 [(3, .int (nI 0)), (2, .int (nI 0)), (0, .ref h0), (1, .int (nI x))] := hl
  refine zl_up (σ := (Int32)) n (fun i tk ls => lv_has ls 5 [(3, .int (nI i)), (2, .int tk), (1, .int (nI x)), (0, .ref h0)] ∧ (z_yn tk (∃ k, k < i ∧ zIt mm rg rn x k))) ?_ ?_ 0 (Nat.zero_le _) (nI 0) ls ⟨lv_sub hl [0, 1, 3, 2] rfl, z_y0 (fun ⟨k, hk, _⟩ => absurd hk (Nat.not_lt_zero _))⟩
  · intro x9 ls hI
    obtain ⟨tk, rfl⟩ : ∃ z, z = x9 := ⟨_, rfl⟩
    obtain ⟨hl, hxI⟩ := hI
    have hl : lv_has ls 5 [(3, .int (nI n)), (2, .int tk), (1, .int (nI x)), (0, .ref h0)] := hl
    refine lv_iload_n hx hb dMD_isTaken_4 rfl (lv_at hl 0 rfl) ?_
    refine lv_aload_n hx hb dMD_isTaken_5 rfl (lv_at hl 3 rfl) ?_
    refine va_get (D := (dC, dI)) (ci := 6) (v := .int (nI n)) (C := RMD) (T := TMD) (N := 26) hx hb hz in_MD hown hK hP 0 rfl rfl 3 (by decide) (hz _ wd_587) (fun _ h9 => h9) rfl dMD_isTaken_6 ?_
    have t1 := nI_toInt (n := n) (by omega)
    have t2 := nI_toInt (n := n) (by omega)
    refine lv_icmp_ge (tgt := 109) hx hb dMD_isTaken_9 rfl (fun _ => ?_) (fun h => by have h := z_nle h; omega)
    refine lv_iload_n hx hb dMD_isTaken_109 rfl (lv_at hl 1 rfl) ?_
    subst hQ
    exact zp_zret hx hb hr hlocks (z_y01 hxI) (hxI) dMD_isTaken_110
  · intro i hi ih
    intro x9 ls hI
    obtain ⟨tk, rfl⟩ : ∃ z, z = x9 := ⟨_, rfl⟩
    obtain ⟨hl, hxI⟩ := hI
    have hl : lv_has ls 5 [(3, .int (nI i)), (2, .int tk), (1, .int (nI x)), (0, .ref h0)] := hl
    refine lv_iload_n hx hb dMD_isTaken_4 rfl (lv_at hl 0 rfl) ?_
    refine lv_aload_n hx hb dMD_isTaken_5 rfl (lv_at hl 3 rfl) ?_
    refine va_get (D := (dC, dI)) (ci := 6) (v := .int (nI n)) (C := RMD) (T := TMD) (N := 26) hx hb hz in_MD hown hK hP 0 rfl rfl 3 (by decide) (hz _ wd_587) (fun _ h9 => h9) rfl dMD_isTaken_6 ?_
    have t3 := nI_toInt (n := i) (by omega)
    have t4 := nI_toInt (n := n) (by omega)
    refine lv_icmp_ge (tgt := 109) hx hb dMD_isTaken_9 rfl (fun h => by have h := z_le h; omega) (fun _ => ?_)
    refine z_join (fun v1 : Int32 => z_yn v1 (mm 6 i + 1 = rg ∧ (mm 5 i = 0 ∨ rn < mm 3 i + mm 5 i))) (fun v1 => W p l e ({ frames := 0, cells := 0, slots := 0, locals := 0 }) s m [.ref h0, .int (nI x)].toArray below meth c s.heap [] 0 0 Q (F0 m 59 ls (.int v1 :: []))) (fun v1 hv1 => ?_) (fun J59 => ?_)
    · refine lv_istore hx hb dMD_isTaken_59 hl (Nat.le_of_ble_eq_true rfl) rfl (fun ls hl => ?_)
      have hl : lv_has ls 5 [(4, .int v1), (3, .int (nI i)), (2, .int tk), (1, .int (nI x)), (0, .ref h0)] := hl
      refine z_join (fun v2 : Int32 => z_yn v2 (∃ k, k < i + 1 ∧ zIt mm rg rn x k)) (fun v2 => W p l e ({ frames := 0, cells := 0, slots := 0, locals := 0 }) s m [.ref h0, .int (nI x)].toArray below meth c s.heap [] 0 0 Q (F0 m 102 ls (.int v2 :: []))) (fun v2 hv2 => ?_) (fun J102 => ?_)
      · refine lv_istore_n hx hb dMD_isTaken_102 rfl hl (Nat.le_of_ble_eq_true rfl) rfl (fun ls hl => ?_)
        have hl : lv_has ls 5 [(2, .int v2), (4, .int v1), (3, .int (nI i)), (1, .int (nI x)), (0, .ref h0)] := hl
        refine lv_iinc (k := 2) (v := nI (i + 1)) hx hb dMD_isTaken_103 hl rfl (by rw [show Int32.ofInt 1 = nI 1 from by decide]; exact nI_add _ _) (Nat.le_of_ble_eq_true rfl) rfl (fun ls hl => ?_)
        have hl : lv_has ls 5 [(3, .int (nI (i + 1))), (2, .int v2), (4, .int v1), (1, .int (nI x)), (0, .ref h0)] := hl
        refine lv_goto (tgt := 4) hx hb dMD_isTaken_106 rfl ?_
        exact ih v2 ls ⟨lv_sub hl [0, 1, 3, 4] rfl, hv2⟩
      · refine lv_iload_n hx hb dMD_isTaken_61 rfl (lv_at hl 2 rfl) ?_
        refine lv_if_ne (tgt := 97) hx hb dMD_isTaken_62 rfl (fun h_t => ?_) (fun h_t => ?_)
        · have h_t := z_yT hxI h_t
          refine lv_iconst (v := nI 1) hx hb dMD_isTaken_97 (by decide) ?_
          refine lv_goto (tgt := 102) hx hb dMD_isTaken_98 rfl ?_
          exact J102 _ (z_y1 (z_exL h_t))
        · have h_t := z_yF hxI h_t
          refine lv_iload hx hb dMD_isTaken_65 (lv_at hl 0 rfl) ?_
          refine lv_if_eq (tgt := 101) hx hb dMD_isTaken_67 rfl (fun h_w => ?_) (fun h_w => ?_)
          · have h_w := z_yF hv1 h_w
            refine lv_iconst (v := nI 0) hx hb dMD_isTaken_101 (by decide) ?_
            exact J102 _ (z_y0 (z_ex0 h_t (fun p9 => h_w p9.1)))
          · have h_w := z_yT hv1 h_w
            refine lv_iload_n hx hb dMD_isTaken_70 rfl (lv_at hl 3 rfl) ?_
            refine lv_aload_n hx hb dMD_isTaken_71 rfl (lv_at hl 4 rfl) ?_
            refine va_get (D := (dC, dI)) (ci := 6) (v := .ref b2) (C := RMD) (T := TMD) (N := 26) hx hb hz in_MD hown hK hP 0 rfl rfl 4 (by decide) (hz _ wd_588) (fun _ h9 => h9) rfl dMD_isTaken_72 ?_
            refine lv_iload_n hx hb dMD_isTaken_75 rfl (lv_at hl 1 rfl) ?_
            refine va_iald hx hb hK hP 3 2 rfl rfl (vp_in_nI (by omega) (by omega)) dMD_isTaken_76 ?_
            refine lv_topi (fun x7 e8 => ?_)
            have e8 : x7 = nI (mm 2 i) := e8.trans (by show nI (mm 2 (nI i).toNatClampNeg) = _; rw [nI_clamp (by omega)])
            subst e8
            have t9 := nI_toInt (n := x) (by omega)
            have t10 := hm 2 i
            have t11 := nI_toInt (n := mm 2 i) (by omega)
            refine lv_icmp_lt (tgt := 101) hx hb dMD_isTaken_77 rfl (fun h12 => ?_) (fun h12 => ?_)
            · have h12 := z_lt h12
              refine lv_iconst (v := nI 0) hx hb dMD_isTaken_101 (by decide) ?_
              exact J102 _ (z_y0 (z_ex0 h_t (fun p9 => by have p9 := p9.2; omega)))
            · have h12 := z_nlt h12
              refine lv_iload_n hx hb dMD_isTaken_80 rfl (lv_at hl 3 rfl) ?_
              refine lv_aload_n hx hb dMD_isTaken_81 rfl (lv_at hl 4 rfl) ?_
              refine va_get (D := (dC, dI)) (ci := 6) (v := .ref b2) (C := RMD) (T := TMD) (N := 26) hx hb hz in_MD hown hK hP 0 rfl rfl 4 (by decide) (hz _ wd_588) (fun _ h9 => h9) rfl dMD_isTaken_82 ?_
              refine lv_iload_n hx hb dMD_isTaken_85 rfl (lv_at hl 1 rfl) ?_
              refine va_iald hx hb hK hP 3 2 rfl rfl (vp_in_nI (by omega) (by omega)) dMD_isTaken_86 ?_
              refine lv_topi (fun x13 e14 => ?_)
              have e14 : x13 = nI (mm 2 i) := e14.trans (by show nI (mm 2 (nI i).toNatClampNeg) = _; rw [nI_clamp (by omega)])
              subst e14
              refine lv_aload_n hx hb dMD_isTaken_87 rfl (lv_at hl 4 rfl) ?_
              refine va_get (D := (dC, dI)) (ci := 6) (v := .ref b4) (C := RMD) (T := TMD) (N := 26) hx hb hz in_MD hown hK hP 0 rfl rfl 6 (by decide) (hz _ wd_590) (fun _ h9 => h9) rfl dMD_isTaken_88 ?_
              refine lv_iload_n hx hb dMD_isTaken_91 rfl (lv_at hl 1 rfl) ?_
              refine va_iald hx hb hK hP 5 4 rfl rfl (vp_in_nI (by omega) (by omega)) dMD_isTaken_92 ?_
              refine lv_topi (fun x15 e16 => ?_)
              have e16 : x15 = nI (mm 4 i) := e16.trans (by show nI (mm 4 (nI i).toNatClampNeg) = _; rw [nI_clamp (by omega)])
              subst e16
              refine lv_iadd hx hb dMD_isTaken_93 ?_
              refine lv_topi (fun x17 e18 => ?_)
              have e18 : x17 = nI ((mm 2 i) + (mm 4 i)) := e18.trans (nI_add _ _)
              subst e18
              have t19 := nI_toInt (n := x) (by omega)
              have t20 := hm 2 i
              have t21 := hm 4 i
              have t22 := nI_toInt (n := (mm 2 i) + (mm 4 i)) (by omega)
              refine lv_icmp_ge (tgt := 101) hx hb dMD_isTaken_94 rfl (fun h23 => ?_) (fun h23 => ?_)
              · have h23 := z_le h23
                refine lv_iconst (v := nI 0) hx hb dMD_isTaken_101 (by decide) ?_
                exact J102 _ (z_y0 (z_ex0 h_t (fun p9 => by have p9 := p9.2; omega)))
              · have h23 := z_nle h23
                refine lv_iconst (v := nI 1) hx hb dMD_isTaken_97 (by decide) ?_
                refine lv_goto (tgt := 102) hx hb dMD_isTaken_98 rfl ?_
                exact J102 _ (z_y1 (z_exR (show _ ∧ _ from ⟨h_w, by omega⟩)))
    · refine lv_aload_n hx hb dMD_isTaken_12 rfl (lv_at hl 3 rfl) ?_
      refine va_get (D := (dC, dI)) (ci := 6) (v := .ref b6) (C := RMD) (T := TMD) (N := 26) hx hb hz in_MD hown hK hP 0 rfl rfl 8 (by decide) (hz _ wd_592) (fun _ h9 => h9) rfl dMD_isTaken_13 ?_
      refine lv_iload_n hx hb dMD_isTaken_16 rfl (lv_at hl 0 rfl) ?_
      refine va_iald hx hb hK hP 7 6 rfl rfl (vp_in_nI (by omega) (by omega)) dMD_isTaken_17 ?_
      refine lv_topi (fun x24 e25 => ?_)
      have e25 : x24 = nI (mm 6 i) := e25.trans (by show nI (mm 6 (nI i).toNatClampNeg) = _; rw [nI_clamp (by omega)])
      subst e25
      refine lv_aload_n hx hb dMD_isTaken_18 rfl (lv_at hl 3 rfl) ?_
      refine va_get (D := (dC, dI)) (ci := 6) (v := .int (nI rg - nI 1)) (C := RMD) (T := TMD) (N := 26) hx hb hz in_MD hown hK hP 0 rfl rfl 14 (by decide) (hz _ wd_598) (fun _ h9 => h9) rfl dMD_isTaken_19 ?_
      have t26 := hm 6 i
      have t27 := nI_toInt (n := mm 6 i) (by omega)
      have t28 := pk_sub_toInt (a := rg) (b := 1) (by omega) (by omega)
      refine lv_icmp_ne (tgt := 58) hx hb dMD_isTaken_22 rfl (fun h29 => ?_) (fun h29 => ?_)
      · have h29 := z_ne h29
        refine lv_iconst (v := nI 0) hx hb dMD_isTaken_58 (by decide) ?_
        exact J59 _ (z_y0 (by omega))
      · have h29 := z_eq h29
        refine lv_aload_n hx hb dMD_isTaken_25 rfl (lv_at hl 3 rfl) ?_
        refine va_get (D := (dC, dI)) (ci := 6) (v := .ref b5) (C := RMD) (T := TMD) (N := 26) hx hb hz in_MD hown hK hP 0 rfl rfl 7 (by decide) (hz _ wd_591) (fun _ h9 => h9) rfl dMD_isTaken_26 ?_
        refine lv_iload_n hx hb dMD_isTaken_29 rfl (lv_at hl 0 rfl) ?_
        refine va_iald hx hb hK hP 6 5 rfl rfl (vp_in_nI (by omega) (by omega)) dMD_isTaken_30 ?_
        refine lv_topi (fun x30 e31 => ?_)
        have e31 : x30 = nI (mm 5 i) := e31.trans (by show nI (mm 5 (nI i).toNatClampNeg) = _; rw [nI_clamp (by omega)])
        subst e31
        have t32 := hm 5 i
        have t33 := nI_toInt (n := mm 5 i) (by omega)
        have t34 : (0 : Int32).toInt = 0 := by decide
        refine lv_if_eq (tgt := 54) hx hb dMD_isTaken_31 rfl (fun h35 => ?_) (fun h35 => ?_)
        · have h35 := z_eq h35
          refine lv_iconst (v := nI 1) hx hb dMD_isTaken_54 (by decide) ?_
          refine lv_goto (tgt := 59) hx hb dMD_isTaken_55 rfl ?_
          exact J59 _ (z_y1 (by omega))
        · have h35 := z_ne h35
          refine lv_aload_n hx hb dMD_isTaken_34 rfl (lv_at hl 3 rfl) ?_
          refine va_get (D := (dC, dI)) (ci := 6) (v := .int (nI rn)) (C := RMD) (T := TMD) (N := 26) hx hb hz in_MD hown hK hP 0 rfl rfl 15 (by decide) (hz _ wd_599) (fun _ h9 => h9) rfl dMD_isTaken_35 ?_
          refine lv_aload_n hx hb dMD_isTaken_38 rfl (lv_at hl 3 rfl) ?_
          refine va_get (D := (dC, dI)) (ci := 6) (v := .ref b3) (C := RMD) (T := TMD) (N := 26) hx hb hz in_MD hown hK hP 0 rfl rfl 5 (by decide) (hz _ wd_589) (fun _ h9 => h9) rfl dMD_isTaken_39 ?_
          refine lv_iload_n hx hb dMD_isTaken_42 rfl (lv_at hl 0 rfl) ?_
          refine va_iald hx hb hK hP 4 3 rfl rfl (vp_in_nI (by omega) (by omega)) dMD_isTaken_43 ?_
          refine lv_topi (fun x36 e37 => ?_)
          have e37 : x36 = nI (mm 3 i) := e37.trans (by show nI (mm 3 (nI i).toNatClampNeg) = _; rw [nI_clamp (by omega)])
          subst e37
          refine lv_aload_n hx hb dMD_isTaken_44 rfl (lv_at hl 3 rfl) ?_
          refine va_get (D := (dC, dI)) (ci := 6) (v := .ref b5) (C := RMD) (T := TMD) (N := 26) hx hb hz in_MD hown hK hP 0 rfl rfl 7 (by decide) (hz _ wd_591) (fun _ h9 => h9) rfl dMD_isTaken_45 ?_
          refine lv_iload_n hx hb dMD_isTaken_48 rfl (lv_at hl 0 rfl) ?_
          refine va_iald hx hb hK hP 6 5 rfl rfl (vp_in_nI (by omega) (by omega)) dMD_isTaken_49 ?_
          refine lv_topi (fun x38 e39 => ?_)
          have e39 : x38 = nI (mm 5 i) := e39.trans (by show nI (mm 5 (nI i).toNatClampNeg) = _; rw [nI_clamp (by omega)])
          subst e39
          refine lv_iadd hx hb dMD_isTaken_50 ?_
          refine lv_topi (fun x40 e41 => ?_)
          have e41 : x40 = nI ((mm 3 i) + (mm 5 i)) := e41.trans (nI_add _ _)
          subst e41
          have t42 := nI_toInt (n := rn) (by omega)
          have t43 := hm 3 i
          have t44 := hm 5 i
          have t45 := nI_toInt (n := (mm 3 i) + (mm 5 i)) (by omega)
          refine lv_icmp_ge (tgt := 58) hx hb dMD_isTaken_51 rfl (fun h46 => ?_) (fun h46 => ?_)
          · have h46 := z_le h46
            refine lv_iconst (v := nI 0) hx hb dMD_isTaken_58 (by decide) ?_
            exact J59 _ (z_y0 (by omega))
          · have h46 := z_nle h46
            refine lv_iconst (v := nI 1) hx hb dMD_isTaken_54 (by decide) ?_
            refine lv_goto (tgt := 59) hx hb dMD_isTaken_55 rfl ?_
            exact J59 _ (z_y1 (by omega))

set_option maxHeartbeats 4000000 in
set_option maxRecDepth 100000 in
theorem f_MD_howMany (l : Launch) (dC : Nat → ClassId) (dI : Nat → Nat → Nat) (h0 : Nat) (b0 : Nat) (b1 : Nat) (b2 : Nat) (b3 : Nat) (b4 : Nat) (b5 : Nat) (b6 : Nat) (b7 : Nat) (b8 : Nat) (b9 : Nat) (b10 : Nat) (b11 : Nat) (b12 : Nat) (b13 : Nat) (b14 : Nat) (b15 : Nat) (b16 : Nat) (b17 : Nat) (kb0 : ClassId) (kb1 : ClassId) (kb2 : ClassId) (kb3 : ClassId) (kb4 : ClassId) (kb5 : ClassId) (kb6 : ClassId) (kb7 : ClassId) (kb8 : ClassId) (kb9 : ClassId) (kb10 : ClassId) (kb11 : ClassId) (mg : Nat) (n : Nat) (rg : Nat) (rn : Nat) (ro : Nat) (sp : Nat) (gp : Nat) (fx : Nat) (mm : Nat → Nat → Nat) (x : Int32) (y : Int32) (hm : ∀ a k, mm a k ≤ 1000) (hn : n ≤ 40) (hg : 1 ≤ mg ∧ mg ≤ 8 ∧ rg ≤ 8 ∧ rn ≤ 1000 ∧ ro ≤ 1000) (hG : ∀ k, k < n → mm 6 k < 8) (hE : ∀ k, k < n → mm 3 k ≤ zEn mm (mm 6 k) n) : zp_M l yMD_howMany wMD_howMany ({ frames := 3, cells := 0, slots := 0, locals := 68 }) [.ref h0, .int x, .int y] (dC, dI) vwCl [zob h0 6 [.int (nI mg), .ref b0, .ref b1, .int (nI n), .ref b2, .ref b3, .ref b4, .ref b5, .ref b6, .ref b7, .ref b8, .ref b9, .ref b10, .ref b11, .int (nI rg - nI 1), .int (nI rn), .int (nI ro), .int (nI sp), .int (nI gp), .int (nI fx), .ref b12, .ref b13, .ref b14, .ref b15, .ref b16, .ref b17], zar b0 kb0 8 (fun j => nI (mm 0 j)), zar b1 kb1 8 (fun j => nI (mm 1 j)), zar b2 kb2 40 (fun j => nI (mm 2 j)), zar b3 kb3 40 (fun j => nI (mm 3 j)), zar b4 kb4 40 (fun j => nI (mm 4 j)), zar b5 kb5 40 (fun j => nI (mm 5 j)), zar b6 kb6 40 (fun j => nI (mm 6 j)), zar b7 kb7 40 (fun j => nI (mm 7 j)), zar b8 kb8 40 (fun j => nI (mm 8 j)), zar b9 kb9 40 (fun j => nI (mm 9 j)), zar b10 kb10 40 (fun j => nI (mm 10 j)), zar b11 kb11 40 (fun j => nI (mm 11 j))] [(kb0, .int), (kb1, .int), (kb2, .int), (kb3, .int), (kb4, .int), (kb5, .int), (kb6, .int), (kb7, .int), (kb8, .int), (kb9, .int), (kb10, .int), (kb11, .int)] (fun _ => True) (fun r => r = nI (zCn (zMt mm n x y) n)) := by
  refine zp_head (cc := cMD_howMany) (maxL := 5) (ret := (some .int)) (by decide +kernel) rfl (Nat.le_of_ble_eq_true rfl) ?_
  intro p e s m below meth c ls F hP hK hX hl
  obtain ⟨hx, hb, hml, hr, hlocks, hown, hts⟩ := F
  have hown : s.vm.findClass "SpannedCellsModel" = some m.cls := hown
  have hz : ∀ w9 ∈ zT, w9.before [.ref h0, .int x, .int y].toArray s = true := fun w9 h => hts w9 (List.mem_cons_of_mem _ h)
  have hl : lv_has ls 5 [(0, .ref h0), (1, .int x), (2, .int y)] := hl
  refine z_q (fun Q hQ => ?_)
  refine lv_iconst (v := nI 0) hx hb dMD_howMany_0 (by decide) ?_
  refine lv_istore_n hx hb dMD_howMany_1 rfl hl (Nat.le_of_ble_eq_true rfl) rfl (fun ls hl => ?_)
  have hl : lv_has ls 5 [(3, .int (nI 0)), (0, .ref h0), (1, .int x), (2, .int y)] := hl
  refine lv_iconst (v := nI 0) hx hb dMD_howMany_2 (by decide) ?_
  refine lv_istore hx hb dMD_howMany_3 hl (Nat.le_of_ble_eq_true rfl) rfl (fun ls hl => ?_)
  have hl : lv_has ls 5 [(4, .int (nI 0)), (3, .int (nI 0)), (0, .ref h0), (1, .int x), (2, .int y)] := hl
  refine zl_up (σ := Unit) n (fun i x9 ls => lv_has ls 5 [(4, .int (nI i)), (3, .int (nI (zCn (zMt mm n x y) i))), (2, .int y), (1, .int x), (0, .ref h0)]) ?_ ?_ 0 (Nat.zero_le _) () ls (lv_sub hl [0, 1, 4, 3, 2] rfl)
  · intro x9 ls hI
    have hl := hI
    have hl : lv_has ls 5 [(4, .int (nI n)), (3, .int (nI (zCn (zMt mm n x y) n))), (2, .int y), (1, .int x), (0, .ref h0)] := hl
    refine lv_iload hx hb dMD_howMany_5 (lv_at hl 0 rfl) ?_
    refine lv_aload_n hx hb dMD_howMany_7 rfl (lv_at hl 4 rfl) ?_
    refine va_get (D := (dC, dI)) (ci := 6) (v := .int (nI n)) (C := RMD) (T := TMD) (N := 26) hx hb hz in_MD hown hK hP 0 rfl rfl 3 (by decide) (hz _ wd_587) (fun _ h9 => h9) rfl dMD_howMany_8 ?_
    have t1 := nI_toInt (n := n) (by omega)
    have t2 := nI_toInt (n := n) (by omega)
    refine lv_icmp_ge (tgt := 39) hx hb dMD_howMany_11 rfl (fun _ => ?_) (fun h => by have h := z_nle h; omega)
    refine lv_iload_n hx hb dMD_howMany_39 rfl (lv_at hl 1 rfl) ?_
    subst hQ
    exact zp_iret hx hb hr hlocks (rfl) dMD_howMany_40
  · intro i hi ih
    intro x9 ls hI
    have hl := hI
    have hl : lv_has ls 5 [(4, .int (nI i)), (3, .int (nI (zCn (zMt mm n x y) i))), (2, .int y), (1, .int x), (0, .ref h0)] := hl
    refine lv_iload hx hb dMD_howMany_5 (lv_at hl 0 rfl) ?_
    refine lv_aload_n hx hb dMD_howMany_7 rfl (lv_at hl 4 rfl) ?_
    refine va_get (D := (dC, dI)) (ci := 6) (v := .int (nI n)) (C := RMD) (T := TMD) (N := 26) hx hb hz in_MD hown hK hP 0 rfl rfl 3 (by decide) (hz _ wd_587) (fun _ h9 => h9) rfl dMD_howMany_8 ?_
    have t3 := nI_toInt (n := i) (by omega)
    have t4 := nI_toInt (n := n) (by omega)
    refine lv_icmp_ge (tgt := 39) hx hb dMD_howMany_11 rfl (fun h => by have h := z_le h; omega) (fun _ => ?_)
    refine z_join (fun v1 : Int32 => v1 = nI (zCn (zMt mm n x y) (i + 1))) (fun v1 => W p l e ({ frames := 3, cells := 0, slots := 0, locals := 68 }) s m [.ref h0, .int x, .int y].toArray below meth c s.heap [] 0 0 Q (F0 m 32 ls (.int v1 :: []))) (fun v1 hv1 => ?_) (fun J32 => ?_)
    · subst hv1
      refine lv_istore_n hx hb dMD_howMany_32 rfl hl (Nat.le_of_ble_eq_true rfl) rfl (fun ls hl => ?_)
      have hl : lv_has ls 5 [(3, .int (nI (zCn (zMt mm n x y) (i + 1)))), (4, .int (nI i)), (2, .int y), (1, .int x), (0, .ref h0)] := hl
      refine lv_iinc (k := 1) (v := nI (i + 1)) hx hb dMD_howMany_33 hl rfl (by rw [show Int32.ofInt 1 = nI 1 from by decide]; exact nI_add _ _) (Nat.le_of_ble_eq_true rfl) rfl (fun ls hl => ?_)
      have hl : lv_has ls 5 [(4, .int (nI (i + 1))), (3, .int (nI (zCn (zMt mm n x y) (i + 1)))), (2, .int y), (1, .int x), (0, .ref h0)] := hl
      refine lv_goto (tgt := 5) hx hb dMD_howMany_36 rfl ?_
      exact ih () ls (lv_sub hl [0, 1, 2, 3, 4] rfl)
    · refine lv_aload_n hx hb dMD_howMany_14 rfl (lv_at hl 4 rfl) ?_
      refine lv_iload hx hb dMD_howMany_15 (lv_at hl 0 rfl) ?_
      refine lv_iload_n hx hb dMD_howMany_17 rfl (lv_at hl 3 rfl) ?_
      refine lv_iload_n hx hb dMD_howMany_18 rfl (lv_at hl 2 rfl) ?_
      refine vp_callSi (W.runV (As := [.int (nI i), .int x, .int y]) (rest := []) ⟨hx, hb, hml, hown, hz⟩ (f_MD_takes l dC dI h0 b0 b1 b2 b3 b4 b5 b6 b7 b8 b9 b10 b11 b12 b13 b14 b15 b16 b17 kb0 kb1 kb2 kb3 kb4 kb5 kb6 kb7 kb8 kb9 kb10 kb11 mg n _ rn ro sp gp fx _ i x y (hm) (by omega) (hg) (hG) (hE) (by omega)) (cwV 3 hz (z_gV wd_712 wd_714 wd_16 wd_37 wd_715) rfl rfl rfl (by decide +kernel) ⟨Nat.le_of_ble_eq_true rfl, Nat.le_of_ble_eq_true rfl⟩) (zr_preV hK (hP.sub [0, 1, 2, 3, 4, 5, 6, 7, 8, 9, 10, 11, 12] rfl) (va_recv (q0 := 0) hK hP (q := (RMD, TMD, 26)) rfl rfl) [0, 1, 2, 3, 4, 5, 6, 7, 8, 9, 10, 11] rfl z_true (fun _ _ _ => trivial)) rfl rfl hl.1 rfl (lv_room (Nat.le_of_ble_eq_true rfl)) dMD_howMany_19 ⟨Nat.le_of_ble_eq_true rfl, Nat.le_of_ble_eq_true rfl⟩) (fun rb h_rb => ?_)
      have h_rb : z_yn rb (zTk (mm 2 i) (mm 4 i) (mm 3 i) (zDn mm n i) x y) := h_rb
      refine lv_if_eq (tgt := 31) hx hb dMD_howMany_22 rfl (fun h_b => ?_) (fun h_b => ?_)
      · have h_b := z_yF h_rb h_b
        refine lv_iload_n hx hb dMD_howMany_31 rfl (lv_at hl 1 rfl) ?_
        exact J32 _ (by rw [zCn_F h_b])
      · have h_b := z_yT h_rb h_b
        refine lv_iload_n hx hb dMD_howMany_25 rfl (lv_at hl 1 rfl) ?_
        refine lv_iconst (v := nI 1) hx hb dMD_howMany_26 (by decide) ?_
        refine lv_iadd hx hb dMD_howMany_27 ?_
        refine lv_topi (fun x6 e7 => ?_)
        have e7 : x6 = nI ((zCn (zMt mm n x y) i) + 1) := e7.trans (nI_add _ _)
        subst e7
        refine lv_goto (tgt := 32) hx hb dMD_howMany_28 rfl ?_
        exact J32 _ (by rw [zCn_T h_b])

set_option maxHeartbeats 4000000 in
set_option maxRecDepth 100000 in
theorem f_MD_slot (l : Launch) (dC : Nat → ClassId) (dI : Nat → Nat → Nat) (h0 : Nat) (b0 : Nat) (b1 : Nat) (b2 : Nat) (b3 : Nat) (b4 : Nat) (b5 : Nat) (b6 : Nat) (b7 : Nat) (b8 : Nat) (b9 : Nat) (b10 : Nat) (b11 : Nat) (b12 : Nat) (b13 : Nat) (b14 : Nat) (b15 : Nat) (b16 : Nat) (b17 : Nat) (kb0 : ClassId) (kb1 : ClassId) (kb2 : ClassId) (kb3 : ClassId) (kb4 : ClassId) (kb5 : ClassId) (kb6 : ClassId) (kb7 : ClassId) (kb8 : ClassId) (kb9 : ClassId) (kb10 : ClassId) (kb11 : ClassId) (mg : Nat) (n : Nat) (rg : Nat) (rn : Nat) (ro : Nat) (sp : Nat) (gp : Nat) (fx : Nat) (mm : Nat → Nat → Nat) (x : Int32) (y : Int32) (hm : ∀ a k, mm a k ≤ 1000) (hn : n ≤ 40) (hg : 1 ≤ mg ∧ mg ≤ 8 ∧ rg ≤ 8 ∧ rn ≤ 1000 ∧ ro ≤ 1000) (hG : ∀ k, k < n → mm 6 k < 8) (hE : ∀ k, k < n → mm 3 k ≤ zEn mm (mm 6 k) n) : zp_M l yMD_slot wMD_slot ({ frames := 3, cells := 0, slots := 0, locals := 68 }) [.ref h0, .int x, .int y] (dC, dI) vwCl [zob h0 6 [.int (nI mg), .ref b0, .ref b1, .int (nI n), .ref b2, .ref b3, .ref b4, .ref b5, .ref b6, .ref b7, .ref b8, .ref b9, .ref b10, .ref b11, .int (nI rg - nI 1), .int (nI rn), .int (nI ro), .int (nI sp), .int (nI gp), .int (nI fx), .ref b12, .ref b13, .ref b14, .ref b15, .ref b16, .ref b17], zar b0 kb0 8 (fun j => nI (mm 0 j)), zar b1 kb1 8 (fun j => nI (mm 1 j)), zar b2 kb2 40 (fun j => nI (mm 2 j)), zar b3 kb3 40 (fun j => nI (mm 3 j)), zar b4 kb4 40 (fun j => nI (mm 4 j)), zar b5 kb5 40 (fun j => nI (mm 5 j)), zar b6 kb6 40 (fun j => nI (mm 6 j)), zar b7 kb7 40 (fun j => nI (mm 7 j)), zar b8 kb8 40 (fun j => nI (mm 8 j)), zar b9 kb9 40 (fun j => nI (mm 9 j)), zar b10 kb10 40 (fun j => nI (mm 10 j)), zar b11 kb11 40 (fun j => nI (mm 11 j))] [(kb0, .int), (kb1, .int), (kb2, .int), (kb3, .int), (kb4, .int), (kb5, .int), (kb6, .int), (kb7, .int), (kb8, .int), (kb9, .int), (kb10, .int), (kb11, .int)] (fun _ => True) (fun r => zFst n (zMt mm n x y) r) := by
  refine zp_head (cc := cMD_slot) (maxL := 5) (ret := (some .int)) (by decide +kernel) rfl (Nat.le_of_ble_eq_true rfl) ?_
  intro p e s m below meth c ls F hP hK hX hl
  obtain ⟨hx, hb, hml, hr, hlocks, hown, hts⟩ := F
  have hown : s.vm.findClass "SpannedCellsModel" = some m.cls := hown
  have hz : ∀ w9 ∈ zT, w9.before [.ref h0, .int x, .int y].toArray s = true := fun w9 h => hts w9 (List.mem_cons_of_mem _ h)
  have hl : lv_has ls 5 [(0, .ref h0), (1, .int x), (2, .int y)] := hl
  refine z_q (fun Q hQ => ?_)
  refine lv_iconst (v := (-1)) hx hb dMD_slot_0 (by decide) ?_
  refine lv_istore_n hx hb dMD_slot_1 rfl hl (Nat.le_of_ble_eq_true rfl) rfl (fun ls hl => ?_)
  have hl : lv_has ls 5 [(3, .int (-1)), (0, .ref h0), (1, .int x), (2, .int y)] := hl
  refine lv_aload_n hx hb dMD_slot_2 rfl (lv_at hl 1 rfl) ?_
  refine va_get (D := (dC, dI)) (ci := 6) (v := .int (nI n)) (C := RMD) (T := TMD) (N := 26) hx hb hz in_MD hown hK hP 0 rfl rfl 3 (by decide) (hz _ wd_587) (fun _ h9 => h9) rfl dMD_slot_3 ?_
  refine lv_iconst (v := nI 1) hx hb dMD_slot_6 (by decide) ?_
  refine lv_isub hx hb dMD_slot_7 ?_
  refine lv_istore hx hb dMD_slot_8 hl (Nat.le_of_ble_eq_true rfl) rfl (fun ls hl => ?_)
  have hl : lv_has ls 5 [(4, .int ((nI n) - (nI 1))), (3, .int (-1)), (0, .ref h0), (1, .int x), (2, .int y)] := hl
  refine zl_up (σ := (Int32)) n (fun i fd ls => lv_has ls 5 [(4, .int (nI (n - i) - nI 1)), (3, .int fd), (2, .int y), (1, .int x), (0, .ref h0)] ∧ (zFf (n - i) n (zMt mm n x y) fd)) ?_ ?_ 0 (Nat.zero_le _) (-1) ls ⟨lv_sub hl [0, 1, 4, 3, 2] rfl, zFf_n (by omega)⟩
  · intro x9 ls hI
    obtain ⟨fd, rfl⟩ : ∃ z, z = x9 := ⟨_, rfl⟩
    obtain ⟨hl, hxI⟩ := hI
    have hl : lv_has ls 5 [(4, .int (nI (n - n) - nI 1)), (3, .int fd), (2, .int y), (1, .int x), (0, .ref h0)] := hl
    refine lv_iload hx hb dMD_slot_10 (lv_at hl 0 rfl) ?_
    have t1 := pk_sub_toInt (a := n - n) (b := 1) (by omega) (by omega)
    have t2 : (0 : Int32).toInt = 0 := by decide
    refine lv_if_lt (tgt := 39) hx hb dMD_slot_12 rfl (fun _ => ?_) (fun h => by have h := z_nlt h; omega)
    refine lv_iload_n hx hb dMD_slot_39 rfl (lv_at hl 1 rfl) ?_
    subst hQ
    exact zp_iret hx hb hr hlocks (zFf_0 (by rw [Nat.sub_self] at hxI; exact hxI)) dMD_slot_40
  · intro i hi ih
    intro x9 ls hI
    obtain ⟨fd, rfl⟩ : ∃ z, z = x9 := ⟨_, rfl⟩
    obtain ⟨hl, hxI⟩ := hI
    have hl : lv_has ls 5 [(4, .int (nI (n - i) - nI 1)), (3, .int fd), (2, .int y), (1, .int x), (0, .ref h0)] := hl
    refine lv_iload hx hb dMD_slot_10 (lv_at hl 0 rfl) ?_
    have t3 := pk_sub_toInt (a := n - i) (b := 1) (by omega) (by omega)
    have t4 : (0 : Int32).toInt = 0 := by decide
    refine lv_if_lt (tgt := 39) hx hb dMD_slot_12 rfl (fun h => by have h := z_lt h; omega) (fun _ => ?_)
    refine z_join (fun v1 : Int32 => zFf (n - (i + 1)) n (zMt mm n x y) v1) (fun v1 => W p l e ({ frames := 3, cells := 0, slots := 0, locals := 68 }) s m [.ref h0, .int x, .int y].toArray below meth c s.heap [] 0 0 Q (F0 m 32 ls (.int v1 :: []))) (fun v1 hv1 => ?_) (fun J32 => ?_)
    · refine lv_istore_n hx hb dMD_slot_32 rfl hl (Nat.le_of_ble_eq_true rfl) rfl (fun ls hl => ?_)
      have hl : lv_has ls 5 [(3, .int v1), (4, .int (nI (n - i) - nI 1)), (2, .int y), (1, .int x), (0, .ref h0)] := hl
      refine lv_iinc (k := 1) (v := nI (n - (i + 1)) - nI 1) hx hb dMD_slot_33 hl rfl (by rw [pk_sub (a := n - i) (b := 1) (by omega), show n - i - 1 = n - (i + 1) by omega, Int32.sub_eq_add_neg]; rfl) (Nat.le_of_ble_eq_true rfl) rfl (fun ls hl => ?_)
      have hl : lv_has ls 5 [(4, .int (nI (n - (i + 1)) - nI 1)), (3, .int v1), (2, .int y), (1, .int x), (0, .ref h0)] := hl
      refine lv_goto (tgt := 10) hx hb dMD_slot_36 rfl ?_
      exact ih v1 ls ⟨lv_sub hl [0, 1, 2, 3, 4] rfl, hv1⟩
    · refine lv_aload_n hx hb dMD_slot_15 rfl (lv_at hl 4 rfl) ?_
      refine lv_iload hx hb dMD_slot_16 (lv_at hl 0 rfl) ?_
      refine lv_topi (fun x5 e6 => ?_)
      have e6 : x5 = nI (n - (i + 1)) := e6.trans (by rw [pk_sub (by omega)]; rfl)
      subst e6
      refine lv_iload_n hx hb dMD_slot_18 rfl (lv_at hl 3 rfl) ?_
      refine lv_iload_n hx hb dMD_slot_19 rfl (lv_at hl 2 rfl) ?_
      refine vp_callSi (W.runV (As := [.int (nI (n - (i + 1))), .int x, .int y]) (rest := []) ⟨hx, hb, hml, hown, hz⟩ (f_MD_takes l dC dI h0 b0 b1 b2 b3 b4 b5 b6 b7 b8 b9 b10 b11 b12 b13 b14 b15 b16 b17 kb0 kb1 kb2 kb3 kb4 kb5 kb6 kb7 kb8 kb9 kb10 kb11 mg n _ rn ro sp gp fx _ (n - (i + 1)) x y (hm) (by omega) (hg) (hG) (hE) (by omega)) (cwV 3 hz (z_gV wd_712 wd_714 wd_16 wd_37 wd_715) rfl rfl rfl (by decide +kernel) ⟨Nat.le_of_ble_eq_true rfl, Nat.le_of_ble_eq_true rfl⟩) (zr_preV hK (hP.sub [0, 1, 2, 3, 4, 5, 6, 7, 8, 9, 10, 11, 12] rfl) (va_recv (q0 := 0) hK hP (q := (RMD, TMD, 26)) rfl rfl) [0, 1, 2, 3, 4, 5, 6, 7, 8, 9, 10, 11] rfl z_true (fun _ _ _ => trivial)) rfl rfl hl.1 rfl (lv_room (Nat.le_of_ble_eq_true rfl)) dMD_slot_20 ⟨Nat.le_of_ble_eq_true rfl, Nat.le_of_ble_eq_true rfl⟩) (fun rb h_rb => ?_)
      have h_rb : z_yn rb (zTk (mm 2 (n - (i + 1))) (mm 4 (n - (i + 1))) (mm 3 (n - (i + 1))) (zDn mm n (n - (i + 1))) x y) := h_rb
      refine lv_if_eq (tgt := 31) hx hb dMD_slot_23 rfl (fun h_b => ?_) (fun h_b => ?_)
      · have h_b := z_yF h_rb h_b
        refine lv_iload_n hx hb dMD_slot_31 rfl (lv_at hl 1 rfl) ?_
        exact J32 _ (zFf_F (by rw [show n - (i + 1) + 1 = n - i by omega]; exact hxI) h_b)
      · have h_b := z_yT h_rb h_b
        refine lv_iload hx hb dMD_slot_26 (lv_at hl 0 rfl) ?_
        refine lv_topi (fun x8 e9 => ?_)
        have e9 : x8 = nI (n - (i + 1)) := e9.trans (by rw [pk_sub (by omega)]; rfl)
        subst e9
        refine lv_goto (tgt := 32) hx hb dMD_slot_28 rfl ?_
        exact J32 _ (zFf_T (by omega) h_b)

set_option maxHeartbeats 4000000 in
set_option maxRecDepth 100000 in
theorem f_MD_overlaps (l : Launch) (dC : Nat → ClassId) (dI : Nat → Nat → Nat) (h0 : Nat) (b0 : Nat) (b1 : Nat) (b2 : Nat) (b3 : Nat) (b4 : Nat) (b5 : Nat) (b6 : Nat) (b7 : Nat) (b8 : Nat) (b9 : Nat) (b10 : Nat) (b11 : Nat) (b12 : Nat) (b13 : Nat) (b14 : Nat) (b15 : Nat) (b16 : Nat) (b17 : Nat) (kb0 : ClassId) (kb1 : ClassId) (kb2 : ClassId) (kb3 : ClassId) (kb4 : ClassId) (kb5 : ClassId) (kb6 : ClassId) (kb7 : ClassId) (kb8 : ClassId) (kb9 : ClassId) (kb10 : ClassId) (kb11 : ClassId) (mg : Nat) (n : Nat) (rg : Nat) (rn : Nat) (ro : Nat) (sp : Nat) (gp : Nat) (fx : Nat) (mm : Nat → Nat → Nat) (hm : ∀ a k, mm a k ≤ 1000) (hn : n ≤ 40) (hg : 1 ≤ mg ∧ mg ≤ 8 ∧ rg ≤ 8 ∧ rn ≤ 1000 ∧ ro ≤ 1000) (hG : ∀ k, k < n → mm 6 k < 8) (hE : ∀ k, k < n → mm 3 k ≤ zEn mm (mm 6 k) n) : zp_M l yMD_overlaps wMD_overlaps ({ frames := 4, cells := 0, slots := 0, locals := 92 }) [.ref h0] (dC, dI) vwCl [zob h0 6 [.int (nI mg), .ref b0, .ref b1, .int (nI n), .ref b2, .ref b3, .ref b4, .ref b5, .ref b6, .ref b7, .ref b8, .ref b9, .ref b10, .ref b11, .int (nI rg - nI 1), .int (nI rn), .int (nI ro), .int (nI sp), .int (nI gp), .int (nI fx), .ref b12, .ref b13, .ref b14, .ref b15, .ref b16, .ref b17], zar b0 kb0 8 (fun j => nI (mm 0 j)), zar b1 kb1 8 (fun j => nI (mm 1 j)), zar b2 kb2 40 (fun j => nI (mm 2 j)), zar b3 kb3 40 (fun j => nI (mm 3 j)), zar b4 kb4 40 (fun j => nI (mm 4 j)), zar b5 kb5 40 (fun j => nI (mm 5 j)), zar b6 kb6 40 (fun j => nI (mm 6 j)), zar b7 kb7 40 (fun j => nI (mm 7 j)), zar b8 kb8 40 (fun j => nI (mm 8 j)), zar b9 kb9 40 (fun j => nI (mm 9 j)), zar b10 kb10 40 (fun j => nI (mm 10 j)), zar b11 kb11 40 (fun j => nI (mm 11 j))] [(kb0, .int), (kb1, .int), (kb2, .int), (kb3, .int), (kb4, .int), (kb5, .int), (kb6, .int), (kb7, .int), (kb8, .int), (kb9, .int), (kb10, .int), (kb11, .int)] (fun _ => True) (fun r => r = nI (zOv (fun p => zHm mm n (p % 12) (p / 12)) 144)) := by
  refine zp_head (cc := cMD_overlaps) (maxL := 4) (ret := (some .int)) (by decide +kernel) rfl (Nat.le_of_ble_eq_true rfl) ?_
  intro p e s m below meth c ls F hP hK hX hl
  obtain ⟨hx, hb, hml, hr, hlocks, hown, hts⟩ := F
  have hown : s.vm.findClass "SpannedCellsModel" = some m.cls := hown
  have hz : ∀ w9 ∈ zT, w9.before [.ref h0].toArray s = true := fun w9 h => hts w9 (List.mem_cons_of_mem _ h)
  have hl : lv_has ls 4 [(0, .ref h0)] := hl
  refine z_q (fun Q hQ => ?_)
  refine lv_iconst (v := nI 0) hx hb dMD_overlaps_0 (by decide) ?_
  refine lv_istore_n hx hb dMD_overlaps_1 rfl hl (Nat.le_of_ble_eq_true rfl) rfl (fun ls hl => ?_)
  have hl : lv_has ls 4 [(1, .int (nI 0)), (0, .ref h0)] := hl
  refine lv_iconst (v := nI 0) hx hb dMD_overlaps_2 (by decide) ?_
  refine lv_istore_n hx hb dMD_overlaps_3 rfl hl (Nat.le_of_ble_eq_true rfl) rfl (fun ls hl => ?_)
  have hl : lv_has ls 4 [(2, .int (nI 0)), (1, .int (nI 0)), (0, .ref h0)] := hl
  refine zl_up (σ := Unit) 144 (fun i x9 ls => lv_has ls 4 [(2, .int (nI i)), (1, .int (nI (zOv (fun p => zHm mm n (p % 12) (p / 12)) i))), (0, .ref h0)]) ?_ ?_ 0 (by decide) () ls (lv_sub hl [0, 1, 2] rfl)
  · intro x9 ls hI
    have hl := hI
    have hl : lv_has ls 4 [(2, .int (nI 144)), (1, .int (nI (zOv (fun p => zHm mm n (p % 12) (p / 12)) 144))), (0, .ref h0)] := hl
    refine lv_iload_n hx hb dMD_overlaps_4 rfl (lv_at hl 0 rfl) ?_
    refine lv_sipush (v := nI 144) hx hb dMD_overlaps_5 (by decide) ?_
    refine lv_icmp_ge (tgt := 45) hx hb dMD_overlaps_8 rfl (fun _ => ?_) (fun h => absurd (by decide) h)
    refine lv_iload_n hx hb dMD_overlaps_45 rfl (lv_at hl 1 rfl) ?_
    subst hQ
    exact zp_iret hx hb hr hlocks (rfl) dMD_overlaps_46
  · intro i hi ih
    intro x9 ls hI
    have hl := hI
    have hl : lv_has ls 4 [(2, .int (nI i)), (1, .int (nI (zOv (fun p => zHm mm n (p % 12) (p / 12)) i))), (0, .ref h0)] := hl
    refine lv_iload_n hx hb dMD_overlaps_4 rfl (lv_at hl 0 rfl) ?_
    refine lv_sipush (v := nI 144) hx hb dMD_overlaps_5 (by decide) ?_
    have t1 := nI_toInt (n := i) (by omega)
    have t2 := nI_toInt (n := 144) (by omega)
    refine lv_icmp_ge (tgt := 45) hx hb dMD_overlaps_8 rfl (fun h => by have h := z_le h; omega) (fun _ => ?_)
    refine lv_aload_n hx hb dMD_overlaps_11 rfl (lv_at hl 2 rfl) ?_
    refine lv_iload_n hx hb dMD_overlaps_12 rfl (lv_at hl 0 rfl) ?_
    refine lv_bipush (v := nI 12) hx hb dMD_overlaps_13 (by decide) ?_
    refine lv_irem hx hb dMD_overlaps_15 (by decide) ?_
    refine lv_topi (fun x3 e4 => ?_)
    have e4 : x3 = nI (i % 12) := e4.trans (pk_rem (by omega) (by decide) (by decide))
    subst e4
    refine lv_iload_n hx hb dMD_overlaps_16 rfl (lv_at hl 0 rfl) ?_
    refine lv_bipush (v := nI 12) hx hb dMD_overlaps_17 (by decide) ?_
    refine lv_idiv hx hb dMD_overlaps_19 (by decide) ?_
    refine lv_topi (fun x5 e6 => ?_)
    have e6 : x5 = nI (i / 12) := e6.trans (pk_div (by omega) (by decide) (by decide))
    subst e6
    refine vp_callSi (W.runV (As := [.int (nI (i % 12)), .int (nI (i / 12))]) (rest := []) ⟨hx, hb, hml, hown, hz⟩ (f_MD_howMany l dC dI h0 b0 b1 b2 b3 b4 b5 b6 b7 b8 b9 b10 b11 b12 b13 b14 b15 b16 b17 kb0 kb1 kb2 kb3 kb4 kb5 kb6 kb7 kb8 kb9 kb10 kb11 mg n _ rn ro sp gp fx _ (nI (i % 12)) (nI (i / 12)) (hm) (by omega) (hg) (hG) (hE)) (cwV 2 hz (z_gV wd_724 wd_726 wd_18 wd_37 wd_727) rfl rfl rfl (by decide +kernel) ⟨Nat.le_of_ble_eq_true rfl, Nat.le_of_ble_eq_true rfl⟩) (zr_preV hK (hP.sub [0, 1, 2, 3, 4, 5, 6, 7, 8, 9, 10, 11, 12] rfl) (va_recv (q0 := 0) hK hP (q := (RMD, TMD, 26)) rfl rfl) [0, 1, 2, 3, 4, 5, 6, 7, 8, 9, 10, 11] rfl z_true (fun _ _ _ => trivial)) rfl rfl hl.1 rfl (lv_room (Nat.le_of_ble_eq_true rfl)) dMD_overlaps_20 ⟨Nat.le_of_ble_eq_true rfl, Nat.le_of_ble_eq_true rfl⟩) (fun r7 h_r7 => ?_)
    have h_r7 : r7 = nI (zHm mm n (i % 12) (i / 12)) := h_r7
    subst h_r7
    have t_h := zHm_le (m := mm) n (i % 12) (i / 12)
    refine lv_istore_n hx hb dMD_overlaps_23 rfl hl (Nat.le_of_ble_eq_true rfl) rfl (fun ls hl => ?_)
    have hl : lv_has ls 4 [(3, .int (nI (zHm mm n (i % 12) (i / 12)))), (2, .int (nI i)), (1, .int (nI (zOv (fun p => zHm mm n (p % 12) (p / 12)) i))), (0, .ref h0)] := hl
    refine z_join (fun v1 : Int32 => v1 = nI (zOv (fun p => zHm mm n (p % 12) (p / 12)) (i + 1))) (fun v1 => W p l e ({ frames := 4, cells := 0, slots := 0, locals := 92 }) s m [.ref h0].toArray below meth c s.heap [] 0 0 Q (F0 m 38 ls (.int v1 :: []))) (fun v1 hv1 => ?_) (fun J38 => ?_)
    · subst hv1
      refine lv_istore_n hx hb dMD_overlaps_38 rfl hl (Nat.le_of_ble_eq_true rfl) rfl (fun ls hl => ?_)
      have hl : lv_has ls 4 [(1, .int (nI (zOv (fun p => zHm mm n (p % 12) (p / 12)) (i + 1)))), (3, .int (nI (zHm mm n (i % 12) (i / 12)))), (2, .int (nI i)), (0, .ref h0)] := hl
      refine lv_iinc (k := 2) (v := nI (i + 1)) hx hb dMD_overlaps_39 hl rfl (by rw [show Int32.ofInt 1 = nI 1 from by decide]; exact nI_add _ _) (Nat.le_of_ble_eq_true rfl) rfl (fun ls hl => ?_)
      have hl : lv_has ls 4 [(2, .int (nI (i + 1))), (1, .int (nI (zOv (fun p => zHm mm n (p % 12) (p / 12)) (i + 1)))), (3, .int (nI (zHm mm n (i % 12) (i / 12)))), (0, .ref h0)] := hl
      refine lv_goto (tgt := 4) hx hb dMD_overlaps_42 rfl ?_
      exact ih () ls (lv_sub hl [0, 1, 3] rfl)
    · refine lv_iload_n hx hb dMD_overlaps_24 rfl (lv_at hl 0 rfl) ?_
      refine lv_iconst (v := nI 1) hx hb dMD_overlaps_25 (by decide) ?_
      have t8 := nI_toInt (n := zHm mm n (i % 12) (i / 12)) (by omega)
      have t9 := nI_toInt (n := 1) (by omega)
      refine lv_icmp_le (tgt := 37) hx hb dMD_overlaps_26 rfl (fun h10 => ?_) (fun h10 => ?_)
      · have h10 := z_le h10
        refine lv_iload_n hx hb dMD_overlaps_37 rfl (lv_at hl 2 rfl) ?_
        exact J38 _ (congrArg nI (show _ = zOv (fun p => zHm mm n (p % 12) (p / 12)) i + (zHm mm n (i % 12) (i / 12) - 1) by omega))
      · have h10 := z_nle h10
        refine lv_iload_n hx hb dMD_overlaps_29 rfl (lv_at hl 2 rfl) ?_
        refine lv_iload_n hx hb dMD_overlaps_30 rfl (lv_at hl 0 rfl) ?_
        refine lv_iadd hx hb dMD_overlaps_31 ?_
        refine lv_topi (fun x11 e12 => ?_)
        have e12 : x11 = nI ((zOv (fun p => zHm mm n (p % 12) (p / 12)) i) + (zHm mm n (i % 12) (i / 12))) := e12.trans (nI_add _ _)
        subst e12
        refine lv_iconst (v := nI 1) hx hb dMD_overlaps_32 (by decide) ?_
        refine lv_isub hx hb dMD_overlaps_33 ?_
        refine lv_topi (fun x13 e14 => ?_)
        have e14 : x13 = nI (zOv (fun p => zHm mm n (p % 12) (p / 12)) i + zHm mm n (i % 12) (i / 12) - 1) := e14.trans (pk_sub (by have := zHm_le (m := mm) n (i % 12) (i / 12); omega))
        subst e14
        refine lv_goto (tgt := 38) hx hb dMD_overlaps_34 rfl ?_
        exact J38 _ (congrArg nI (show _ = zOv (fun p => zHm mm n (p % 12) (p / 12)) i + (zHm mm n (i % 12) (i / 12) - 1) by omega))
