set_option maxHeartbeats 4000000 in
set_option maxRecDepth 100000 in
theorem f_LI_shareOut (l : Launch) (dC : Nat → ClassId) (dI : Nat → Nat → Nat) (T : va_W) (a : Nat) (qa : Nat) (ka : ClassId) (f : Nat → Int32) (b : Nat) (qb : Nat) (kb : ClassId) (fb : Nat → Int32) (am : Int32) (i0 : Nat) (e0 : Nat) (hi0 : i0 ≤ e0) (he0 : e0 ≤ 12) : zw_Mv (S := (Nat → Int32)) l yLI_shareOut wLI_shareOut ({ frames := 1, cells := 0, slots := 0, locals := 24 }) [.ref a, .int am, .ref b, .int (nI i0), .int (nI e0)] (dC, dI) vwCl ([zob a 4 [.ref qa], zar qa ka 12 f, zob b 4 [.ref qb], zar qb kb 12 fb] ++ T) [(ka, .int), (kb, .int)] (fun _ _ => True) (fun (f2 : Nat → Int32) => True) (fun (f2 : Nat → Int32) => ([zob a 4 [.ref qa], zar qa ka 12 f2, zob b 4 [.ref qb], zar qb kb 12 fb] ++ T)) (fun (f2 : Nat → Int32) => []) 0 0 := by
  refine zw_headv (cc := cLI_shareOut) (maxL := 12) (ret := none) (by decide +kernel) rfl (Nat.le_of_ble_eq_true rfl) ?_
  intro p e s m below meth c ls A F hnm hA hP hK hD hS hX hl
  obtain ⟨hx, hb, hml, hr, hlocks, hown, hts⟩ := F
  have hown : s.vm.findClass "SpannedCells$Lines" = some m.cls := hown
  have hz : ∀ w9 ∈ zT, w9.before [.ref a, .int am, .ref b, .int (nI i0), .int (nI e0)].toArray s = true := fun w9 h => hts w9 (List.mem_cons_of_mem _ h)
  have hl : lv_has ls 12 [(0, .ref a), (1, .int am), (2, .ref b), (3, .int (nI i0)), (4, .int (nI e0))] := hl
  refine z_q (fun Q hQ => ?_)
  refine lv_aload_n hx hb dLI_shareOut_0 rfl (lv_at hl 2 rfl) ?_
  refine lv_iload_n hx hb dLI_shareOut_1 rfl (lv_at hl 3 rfl) ?_
  refine lv_iload hx hb dLI_shareOut_2 (lv_at hl 4 rfl) ?_
  refine vp_callSi (W.runV (As := [.int (nI i0), .int (nI e0)]) (rest := []) ⟨hx, hb, hml, hown, hz⟩ (f_LI_sum l dC dI b qb kb fb i0 e0 (by omega) (by omega)) (cwV 2 hz (z_gV wd_479 wd_480 wd_481 wd_35 wd_482) rfl rfl rfl (by decide +kernel) ⟨Nat.le_of_ble_eq_true rfl, Nat.le_of_ble_eq_true rfl⟩) (zr_preV hK (hP.sub [2, 3] rfl) (va_recv (q0 := 2) hK hP (q := (RLI, TLI, 1)) rfl rfl) [1] rfl z_true (fun _ _ _ => trivial)) rfl rfl hl.1 rfl (lv_room (Nat.le_of_ble_eq_true rfl)) dLI_shareOut_4 ⟨Nat.le_of_ble_eq_true rfl, Nat.le_of_ble_eq_true rfl⟩) (fun ws h_ws => ?_)
  refine lv_istore hx hb dLI_shareOut_7 hl (Nat.le_of_ble_eq_true rfl) rfl (fun ls hl => ?_)
  have hl : lv_has ls 12 [(5, .int ws), (0, .ref a), (1, .int am), (2, .ref b), (3, .int (nI i0)), (4, .int (nI e0))] := hl
  refine z_join (fun v1 : Int32 => True) (fun v1 => W p l e ({ frames := 1, cells := 0, slots := 0, locals := 24 }) s m [.ref a, .int am, .ref b, .int (nI i0), .int (nI e0)].toArray below meth c s.heap [] 0 0 Q (F0 m 19 ls (.int v1 :: []))) (fun v1 hv1 => ?_) (fun J19 => ?_)
  · refine lv_istore hx hb dLI_shareOut_19 hl (Nat.le_of_ble_eq_true rfl) rfl (fun ls hl => ?_)
    have hl : lv_has ls 12 [(6, .int v1), (5, .int ws), (0, .ref a), (1, .int am), (2, .ref b), (3, .int (nI i0)), (4, .int (nI e0))] := hl
    refine z_join (fun v2 : Int32 => True) (fun v2 => W p l e ({ frames := 1, cells := 0, slots := 0, locals := 24 }) s m [.ref a, .int am, .ref b, .int (nI i0), .int (nI e0)].toArray below meth c s.heap [] 0 0 Q (F0 m 35 ls (.int v2 :: []))) (fun v2 hv2 => ?_) (fun J35 => ?_)
    · refine lv_istore hx hb dLI_shareOut_35 hl (Nat.le_of_ble_eq_true rfl) rfl (fun ls hl => ?_)
      have hl : lv_has ls 12 [(7, .int v2), (6, .int v1), (5, .int ws), (0, .ref a), (1, .int am), (2, .ref b), (3, .int (nI i0)), (4, .int (nI e0))] := hl
      refine lv_iload hx hb dLI_shareOut_37 (lv_at hl 0 rfl) ?_
      refine lv_if_gt (tgt := 43) hx hb dLI_shareOut_39 rfl (fun h_d => ?_) (fun h_d => ?_)
      · refine lv_iload_n hx hb dLI_shareOut_43 rfl (lv_at hl 4 rfl) ?_
        refine lv_istore hx hb dLI_shareOut_44 hl (Nat.le_of_ble_eq_true rfl) rfl (fun ls hl => ?_)
        have hl : lv_has ls 12 [(8, .int am), (7, .int v2), (6, .int v1), (5, .int ws), (0, .ref a), (1, .int am), (2, .ref b), (3, .int (nI i0)), (4, .int (nI e0))] := hl
        refine lv_iload_n hx hb dLI_shareOut_46 rfl (lv_at hl 7 rfl) ?_
        refine lv_istore hx hb dLI_shareOut_47 hl (Nat.le_of_ble_eq_true rfl) rfl (fun ls hl => ?_)
        have hl : lv_has ls 12 [(9, .int (nI i0)), (8, .int am), (7, .int v2), (6, .int v1), (5, .int ws), (0, .ref a), (1, .int am), (2, .ref b), (3, .int (nI i0)), (4, .int (nI e0))] := hl
        refine zl_upW (σ := (Int32) × (Nat → Int32)) e0 (fun i x9 ls H locs => match x9 with | (lf, fo) => lv_has ls 12 [(9, .int (nI i)), (8, .int lf), (7, .int v2), (6, .int v1), (5, .int ws), (4, .int (nI e0)), (3, .int (nI i0)), (2, .ref b), (1, .int am), (0, .ref a)] ∧ va_P (dC, dI) vwCl ([zob a 4 [.ref qa], zar qa ka 12 fo, zob b 4 [.ref qb], zar qb kb 12 fb] ++ T) H ∧ va_D A ([zob a 4 [.ref qa], zar qa ka 12 fo, zob b 4 [.ref qb], zar qb kb 12 fb] ++ T) ∧ va_S A s.heap H locs) ?_ ?_ i0 (hi0) (am, f) ls s.heap [] ⟨lv_sub hl [0, 1, 2, 3, 4, 9, 8, 7, 6, 5] rfl, hP, hD, hS⟩
        · intro x9 ls H locs hI
          obtain ⟨lf, fo⟩ := x9
          obtain ⟨hl, hP, hD, hS⟩ := hI
          have hl : lv_has ls 12 [(9, .int (nI e0)), (8, .int lf), (7, .int v2), (6, .int v1), (5, .int ws), (4, .int (nI e0)), (3, .int (nI i0)), (2, .ref b), (1, .int am), (0, .ref a)] := hl
          have hP : va_P (dC, dI) vwCl ([zob a 4 [.ref qa], zar qa ka 12 fo, zob b 4 [.ref qb], zar qb kb 12 fb] ++ T) H := hP
          have hD : va_D A ([zob a 4 [.ref qa], zar qa ka 12 fo, zob b 4 [.ref qb], zar qb kb 12 fb] ++ T) := hD
          refine lv_iload hx hb dLI_shareOut_49 (lv_at hl 0 rfl) ?_
          refine lv_iload hx hb dLI_shareOut_51 (lv_at hl 5 rfl) ?_
          have t2 := nI_toInt (n := e0) (by omega)
          have t3 := nI_toInt (n := e0) (by omega)
          refine lv_icmp_ge (tgt := 108) hx hb dLI_shareOut_53 rfl (fun _ => ?_) (fun h => by have h := z_nle h; omega)
          refine lv_iload_n hx hb dLI_shareOut_108 rfl (lv_at hl 6 rfl) ?_
          refine lv_istore hx hb dLI_shareOut_109 hl (Nat.le_of_ble_eq_true rfl) rfl (fun ls hl => ?_)
          have hl : lv_has ls 12 [(9, .int (nI i0)), (8, .int lf), (7, .int v2), (6, .int v1), (5, .int ws), (4, .int (nI e0)), (3, .int (nI i0)), (2, .ref b), (1, .int am), (0, .ref a)] := hl
          refine zl_upW (σ := (Int32) × (Nat → Int32)) e0 (fun i x9 ls H locs => match x9 with | (lg, fp) => lv_has ls 12 [(9, .int (nI i)), (8, .int lg), (7, .int v2), (6, .int v1), (5, .int ws), (4, .int (nI e0)), (3, .int (nI i0)), (2, .ref b), (1, .int am), (0, .ref a)] ∧ va_P (dC, dI) vwCl ([zob a 4 [.ref qa], zar qa ka 12 fp, zob b 4 [.ref qb], zar qb kb 12 fb] ++ T) H ∧ va_D A ([zob a 4 [.ref qa], zar qa ka 12 fp, zob b 4 [.ref qb], zar qb kb 12 fb] ++ T) ∧ va_S A s.heap H locs) ?_ ?_ i0 (hi0) (lf, fo) ls H locs ⟨lv_sub hl [0, 1, 2, 3, 4, 5, 6, 7, 8, 9] rfl, hP, hD, hS⟩
          · intro x9 ls H locs hI
            obtain ⟨lg, fp⟩ := x9
            obtain ⟨hl, hP, hD, hS⟩ := hI
            have hl : lv_has ls 12 [(9, .int (nI e0)), (8, .int lg), (7, .int v2), (6, .int v1), (5, .int ws), (4, .int (nI e0)), (3, .int (nI i0)), (2, .ref b), (1, .int am), (0, .ref a)] := hl
            have hP : va_P (dC, dI) vwCl ([zob a 4 [.ref qa], zar qa ka 12 fp, zob b 4 [.ref qb], zar qb kb 12 fb] ++ T) H := hP
            have hD : va_D A ([zob a 4 [.ref qa], zar qa ka 12 fp, zob b 4 [.ref qb], zar qb kb 12 fb] ++ T) := hD
            refine lv_iload hx hb dLI_shareOut_111 (lv_at hl 0 rfl) ?_
            refine lv_iload hx hb dLI_shareOut_113 (lv_at hl 5 rfl) ?_
            have t4 := nI_toInt (n := e0) (by omega)
            have t5 := nI_toInt (n := e0) (by omega)
            refine lv_icmp_ge (tgt := 143) hx hb dLI_shareOut_115 rfl (fun _ => ?_) (fun h => by have h := z_nle h; omega)
            subst hQ
            exact zw_vret (D := (dC, dI)) (cl := vwCl) (A := A) fp hx hb hr hlocks (trivial) (zt_sub hP [0, 1, 2, 3] rfl) (hK.sub [] rfl) (zt_subD hD [0, 1, 2, 3] (by decide) rfl) hS dLI_shareOut_143
          · intro i hi ih
            intro x9 ls H locs hI
            obtain ⟨lg, fp⟩ := x9
            obtain ⟨hl, hP, hD, hS⟩ := hI
            have hl : lv_has ls 12 [(9, .int (nI i)), (8, .int lg), (7, .int v2), (6, .int v1), (5, .int ws), (4, .int (nI e0)), (3, .int (nI i0)), (2, .ref b), (1, .int am), (0, .ref a)] := hl
            have hP : va_P (dC, dI) vwCl ([zob a 4 [.ref qa], zar qa ka 12 fp, zob b 4 [.ref qb], zar qb kb 12 fb] ++ T) H := hP
            have hD : va_D A ([zob a 4 [.ref qa], zar qa ka 12 fp, zob b 4 [.ref qb], zar qb kb 12 fb] ++ T) := hD
            refine lv_iload hx hb dLI_shareOut_111 (lv_at hl 0 rfl) ?_
            refine lv_iload hx hb dLI_shareOut_113 (lv_at hl 5 rfl) ?_
            have t6 := nI_toInt (n := i) (by omega)
            have t7 := nI_toInt (n := e0) (by omega)
            refine lv_icmp_ge (tgt := 143) hx hb dLI_shareOut_115 rfl (fun h => by have h := z_le h; omega) (fun _ => ?_)
            refine lv_iload hx hb dLI_shareOut_118 (lv_at hl 1 rfl) ?_
            refine lv_if_le (tgt := 143) hx hb dLI_shareOut_120 rfl (fun h8 => ?_) (fun h8 => ?_)
            · subst hQ
              exact zw_vret (D := (dC, dI)) (cl := vwCl) (A := A) fp hx hb hr hlocks (trivial) (zt_sub hP [0, 1, 2, 3] rfl) (hK.sub [] rfl) (zt_subD hD [0, 1, 2, 3] (by decide) rfl) hS dLI_shareOut_143
            · refine lv_aload_n hx hb dLI_shareOut_123 rfl (lv_at hl 9 rfl) ?_
              refine va_get (D := (dC, dI)) (ci := 4) (v := .ref qa) (C := RLI) (T := TLI) (N := 1) hx hb hz in_LI hown hK hP 0 rfl rfl 0 (by decide) (hz _ wd_116) (fun _ h9 => h9) rfl dLI_shareOut_124 ?_
              refine lv_iload hx hb dLI_shareOut_127 (lv_at hl 0 rfl) ?_
              refine lv_dup2_11 hx hb dLI_shareOut_129 rfl rfl ?_
              refine va_iald hx hb hK hP 1 0 rfl rfl (vp_in_nI (by omega) (by omega)) dLI_shareOut_130 ?_
              refine lv_topi (fun y9 _ => ?_)
              refine lv_iconst (v := nI 1) hx hb dLI_shareOut_131 (by decide) ?_
              refine lv_iadd hx hb dLI_shareOut_132 ?_
              refine lv_topi (fun y10 _ => ?_)
              refine va_iast hx hb hK hP hD hS 1 0 rfl rfl (vp_in_nI (by omega) (by omega)) dLI_shareOut_133 (fun H locs hP hD hS => ?_)
              have hP : va_P (dC, dI) vwCl ([zob a 4 [.ref qa], zar qa ka 12 (upd fp (nI i).toNatClampNeg y10), zob b 4 [.ref qb], zar qb kb 12 fb] ++ T) H := hP
              have hD : va_D A ([zob a 4 [.ref qa], zar qa ka 12 (upd fp (nI i).toNatClampNeg y10), zob b 4 [.ref qb], zar qb kb 12 fb] ++ T) := hD
              obtain ⟨w11, e_w⟩ : ∃ f9 : Nat → Int32, f9 = upd fp (nI i).toNatClampNeg y10 := ⟨_, rfl⟩
              rw [← e_w] at hP hD
              have hP : va_P (dC, dI) vwCl ([zob a 4 [.ref qa], zar qa ka 12 w11, zob b 4 [.ref qb], zar qb kb 12 fb] ++ T) H := hP
              have hD : va_D A ([zob a 4 [.ref qa], zar qa ka 12 w11, zob b 4 [.ref qb], zar qb kb 12 fb] ++ T) := hD
              refine lv_iinc (k := 1) (v := lg + Int32.ofInt (-1)) hx hb dLI_shareOut_134 hl rfl (rfl) (Nat.le_of_ble_eq_true rfl) rfl (fun ls hl => ?_)
              have hl : lv_has ls 12 [(8, .int (lg + Int32.ofInt (-1))), (9, .int (nI i)), (7, .int v2), (6, .int v1), (5, .int ws), (4, .int (nI e0)), (3, .int (nI i0)), (2, .ref b), (1, .int am), (0, .ref a)] := hl
              refine lv_iinc (k := 1) (v := nI (i + 1)) hx hb dLI_shareOut_137 hl rfl (by rw [show Int32.ofInt 1 = nI 1 from by decide]; exact nI_add _ _) (Nat.le_of_ble_eq_true rfl) rfl (fun ls hl => ?_)
              have hl : lv_has ls 12 [(9, .int (nI (i + 1))), (8, .int (lg + Int32.ofInt (-1))), (7, .int v2), (6, .int v1), (5, .int ws), (4, .int (nI e0)), (3, .int (nI i0)), (2, .ref b), (1, .int am), (0, .ref a)] := hl
              refine lv_goto (tgt := 111) hx hb dLI_shareOut_140 rfl ?_
              exact ih (lg + Int32.ofInt (-1), w11) ls H locs ⟨lv_sub hl [0, 1, 2, 3, 4, 5, 6, 7, 8, 9] rfl, hP, hD, hS⟩
        · intro i hi ih
          intro x9 ls H locs hI
          obtain ⟨lf, fo⟩ := x9
          obtain ⟨hl, hP, hD, hS⟩ := hI
          have hl : lv_has ls 12 [(9, .int (nI i)), (8, .int lf), (7, .int v2), (6, .int v1), (5, .int ws), (4, .int (nI e0)), (3, .int (nI i0)), (2, .ref b), (1, .int am), (0, .ref a)] := hl
          have hP : va_P (dC, dI) vwCl ([zob a 4 [.ref qa], zar qa ka 12 fo, zob b 4 [.ref qb], zar qb kb 12 fb] ++ T) H := hP
          have hD : va_D A ([zob a 4 [.ref qa], zar qa ka 12 fo, zob b 4 [.ref qb], zar qb kb 12 fb] ++ T) := hD
          refine lv_iload hx hb dLI_shareOut_49 (lv_at hl 0 rfl) ?_
          refine lv_iload hx hb dLI_shareOut_51 (lv_at hl 5 rfl) ?_
          have t12 := nI_toInt (n := i) (by omega)
          have t13 := nI_toInt (n := e0) (by omega)
          refine lv_icmp_ge (tgt := 108) hx hb dLI_shareOut_53 rfl (fun h => by have h := z_le h; omega) (fun _ => ?_)
          refine z_join (fun v3 : Int32 => True) (fun v3 => W p l e ({ frames := 1, cells := 0, slots := 0, locals := 24 }) s m [.ref a, .int am, .ref b, .int (nI i0), .int (nI e0)].toArray below meth c H locs 0 0 Q (F0 m 72 ls (.int v3 :: []))) (fun v3 hv3 => ?_) (fun J72 => ?_)
          · refine lv_istore hx hb dLI_shareOut_72 hl (Nat.le_of_ble_eq_true rfl) rfl (fun ls hl => ?_)
            have hl : lv_has ls 12 [(10, .int v3), (9, .int (nI i)), (8, .int lf), (7, .int v2), (6, .int v1), (5, .int ws), (4, .int (nI e0)), (3, .int (nI i0)), (2, .ref b), (1, .int am), (0, .ref a)] := hl
            refine lv_iload_n hx hb dLI_shareOut_74 rfl (lv_at hl 9 rfl) ?_
            refine lv_iload hx hb dLI_shareOut_75 (lv_at hl 0 rfl) ?_
            refine lv_imul hx hb dLI_shareOut_77 ?_
            refine lv_topi (fun y14 _ => ?_)
            refine lv_iload hx hb dLI_shareOut_78 (lv_at hl 3 rfl) ?_
            refine lv_idiv hx hb dLI_shareOut_80 (fun h9 => by rw [h9] at h_d; exact absurd h_d (by decide)) ?_
            refine lv_topi (fun y15 _ => ?_)
            refine lv_istore hx hb dLI_shareOut_81 hl (Nat.le_of_ble_eq_true rfl) rfl (fun ls hl => ?_)
            have hl : lv_has ls 12 [(11, .int y15), (10, .int v3), (9, .int (nI i)), (8, .int lf), (7, .int v2), (6, .int v1), (5, .int ws), (4, .int (nI e0)), (3, .int (nI i0)), (2, .ref b), (1, .int am), (0, .ref a)] := hl
            refine lv_aload_n hx hb dLI_shareOut_83 rfl (lv_at hl 11 rfl) ?_
            refine va_get (D := (dC, dI)) (ci := 4) (v := .ref qa) (C := RLI) (T := TLI) (N := 1) hx hb hz in_LI hown hK hP 0 rfl rfl 0 (by decide) (hz _ wd_116) (fun _ h9 => h9) rfl dLI_shareOut_84 ?_
            refine lv_iload hx hb dLI_shareOut_87 (lv_at hl 2 rfl) ?_
            refine lv_dup2_11 hx hb dLI_shareOut_89 rfl rfl ?_
            refine va_iald hx hb hK hP 1 0 rfl rfl (vp_in_nI (by omega) (by omega)) dLI_shareOut_90 ?_
            refine lv_topi (fun y16 _ => ?_)
            refine lv_iload hx hb dLI_shareOut_91 (lv_at hl 0 rfl) ?_
            refine lv_iadd hx hb dLI_shareOut_93 ?_
            refine lv_topi (fun y17 _ => ?_)
            refine va_iast hx hb hK hP hD hS 1 0 rfl rfl (vp_in_nI (by omega) (by omega)) dLI_shareOut_94 (fun H locs hP hD hS => ?_)
            have hP : va_P (dC, dI) vwCl ([zob a 4 [.ref qa], zar qa ka 12 (upd fo (nI i).toNatClampNeg y17), zob b 4 [.ref qb], zar qb kb 12 fb] ++ T) H := hP
            have hD : va_D A ([zob a 4 [.ref qa], zar qa ka 12 (upd fo (nI i).toNatClampNeg y17), zob b 4 [.ref qb], zar qb kb 12 fb] ++ T) := hD
            obtain ⟨w18, e_w⟩ : ∃ f9 : Nat → Int32, f9 = upd fo (nI i).toNatClampNeg y17 := ⟨_, rfl⟩
            rw [← e_w] at hP hD
            have hP : va_P (dC, dI) vwCl ([zob a 4 [.ref qa], zar qa ka 12 w18, zob b 4 [.ref qb], zar qb kb 12 fb] ++ T) H := hP
            have hD : va_D A ([zob a 4 [.ref qa], zar qa ka 12 w18, zob b 4 [.ref qb], zar qb kb 12 fb] ++ T) := hD
            refine lv_iload hx hb dLI_shareOut_95 (lv_at hl 3 rfl) ?_
            refine lv_iload hx hb dLI_shareOut_97 (lv_at hl 0 rfl) ?_
            refine lv_isub hx hb dLI_shareOut_99 ?_
            refine lv_topi (fun y19 _ => ?_)
            refine lv_istore hx hb dLI_shareOut_100 hl (Nat.le_of_ble_eq_true rfl) rfl (fun ls hl => ?_)
            have hl : lv_has ls 12 [(8, .int y19), (11, .int y15), (10, .int v3), (9, .int (nI i)), (7, .int v2), (6, .int v1), (5, .int ws), (4, .int (nI e0)), (3, .int (nI i0)), (2, .ref b), (1, .int am), (0, .ref a)] := hl
            refine lv_iinc (k := 3) (v := nI (i + 1)) hx hb dLI_shareOut_102 hl rfl (by rw [show Int32.ofInt 1 = nI 1 from by decide]; exact nI_add _ _) (Nat.le_of_ble_eq_true rfl) rfl (fun ls hl => ?_)
            have hl : lv_has ls 12 [(9, .int (nI (i + 1))), (8, .int y19), (11, .int y15), (10, .int v3), (7, .int v2), (6, .int v1), (5, .int ws), (4, .int (nI e0)), (3, .int (nI i0)), (2, .ref b), (1, .int am), (0, .ref a)] := hl
            refine lv_goto (tgt := 49) hx hb dLI_shareOut_105 rfl ?_
            exact ih (y19, w18) ls H locs ⟨lv_sub hl [0, 1, 4, 5, 6, 7, 8, 9, 10, 11] rfl, hP, hD, hS⟩
          · refine lv_iload hx hb dLI_shareOut_56 (lv_at hl 3 rfl) ?_
            refine lv_if_eq (tgt := 65) hx hb dLI_shareOut_58 rfl (fun h20 => ?_) (fun h20 => ?_)
            · refine lv_aload_n hx hb dLI_shareOut_65 rfl (lv_at hl 7 rfl) ?_
              refine va_get (D := (dC, dI)) (ci := 4) (v := .ref qb) (C := RLI) (T := TLI) (N := 1) hx hb hz in_LI hown hK hP 2 rfl rfl 0 (by decide) (hz _ wd_116) (fun _ h9 => h9) rfl dLI_shareOut_66 ?_
              refine lv_iload hx hb dLI_shareOut_69 (lv_at hl 0 rfl) ?_
              refine va_iald hx hb hK hP 3 1 rfl rfl (vp_in_nI (by omega) (by omega)) dLI_shareOut_71 ?_
              refine lv_topi (fun y21 _ => ?_)
              exact J72 _ (trivial)
            · refine lv_iconst (v := nI 1) hx hb dLI_shareOut_61 (by decide) ?_
              refine lv_goto (tgt := 72) hx hb dLI_shareOut_62 rfl ?_
              exact J72 _ (trivial)
      · subst hQ
        exact zw_vret (D := (dC, dI)) (cl := vwCl) (A := A) f hx hb hr hlocks (trivial) (zt_sub hP [0, 1, 2, 3] rfl) (hK.sub [] rfl) (zt_subD hD [0, 1, 2, 3] (by decide) rfl) hS dLI_shareOut_42
    · refine lv_iload hx hb dLI_shareOut_21 (lv_at hl 0 rfl) ?_
      refine lv_if_eq (tgt := 33) hx hb dLI_shareOut_23 rfl (fun h22 => ?_) (fun h22 => ?_)
      · refine lv_iload hx hb dLI_shareOut_33 (lv_at hl 1 rfl) ?_
        exact J35 _ (trivial)
      · refine lv_iload hx hb dLI_shareOut_26 (lv_at hl 6 rfl) ?_
        refine lv_iload_n hx hb dLI_shareOut_28 rfl (lv_at hl 5 rfl) ?_
        refine lv_isub hx hb dLI_shareOut_29 ?_
        refine lv_topi (fun y23 _ => ?_)
        refine lv_goto (tgt := 35) hx hb dLI_shareOut_30 rfl ?_
        exact J35 _ (trivial)
  · refine lv_iload hx hb dLI_shareOut_9 (lv_at hl 0 rfl) ?_
    refine lv_if_ne (tgt := 18) hx hb dLI_shareOut_11 rfl (fun h24 => ?_) (fun h24 => ?_)
    · refine lv_iconst (v := nI 0) hx hb dLI_shareOut_18 (by decide) ?_
      exact J19 _ (trivial)
    · refine lv_iconst (v := nI 1) hx hb dLI_shareOut_14 (by decide) ?_
      refine lv_goto (tgt := 19) hx hb dLI_shareOut_15 rfl ?_
      exact J19 _ (trivial)

set_option maxHeartbeats 4000000 in
set_option maxRecDepth 100000 in
theorem f_LI_shareOutA (l : Launch) (dC : Nat → ClassId) (dI : Nat → Nat → Nat) (T : va_W) (a : Nat) (qa : Nat) (ka : ClassId) (f : Nat → Int32) (am : Int32) (i0 : Nat) (e0 : Nat) (hi0 : i0 ≤ e0) (he0 : e0 ≤ 12) : zw_Mv (S := (Nat → Int32)) l yLI_shareOut wLI_shareOut ({ frames := 1, cells := 0, slots := 0, locals := 24 }) [.ref a, .int am, .ref a, .int (nI i0), .int (nI e0)] (dC, dI) vwCl ([zob a 4 [.ref qa], zar qa ka 12 f] ++ T) [(ka, .int)] (fun _ _ => True) (fun (f2 : Nat → Int32) => True) (fun (f2 : Nat → Int32) => ([zob a 4 [.ref qa], zar qa ka 12 f2] ++ T)) (fun (f2 : Nat → Int32) => []) 0 0 := by
  refine zw_headv (cc := cLI_shareOut) (maxL := 12) (ret := none) (by decide +kernel) rfl (Nat.le_of_ble_eq_true rfl) ?_
  intro p e s m below meth c ls A F hnm hA hP hK hD hS hX hl
  obtain ⟨hx, hb, hml, hr, hlocks, hown, hts⟩ := F
  have hown : s.vm.findClass "SpannedCells$Lines" = some m.cls := hown
  have hz : ∀ w9 ∈ zT, w9.before [.ref a, .int am, .ref a, .int (nI i0), .int (nI e0)].toArray s = true := fun w9 h => hts w9 (List.mem_cons_of_mem _ h)
  have hl : lv_has ls 12 [(0, .ref a), (1, .int am), (2, .ref a), (3, .int (nI i0)), (4, .int (nI e0))] := hl
  refine z_q (fun Q hQ => ?_)
  refine lv_aload_n hx hb dLI_shareOut_0 rfl (lv_at hl 2 rfl) ?_
  refine lv_iload_n hx hb dLI_shareOut_1 rfl (lv_at hl 3 rfl) ?_
  refine lv_iload hx hb dLI_shareOut_2 (lv_at hl 4 rfl) ?_
  refine vp_callSi (W.runV (As := [.int (nI i0), .int (nI e0)]) (rest := []) ⟨hx, hb, hml, hown, hz⟩ (f_LI_sum l dC dI a qa ka f i0 e0 (by omega) (by omega)) (cwV 2 hz (z_gV wd_479 wd_480 wd_481 wd_35 wd_482) rfl rfl rfl (by decide +kernel) ⟨Nat.le_of_ble_eq_true rfl, Nat.le_of_ble_eq_true rfl⟩) (zr_preV hK (hP.sub [0, 1] rfl) (va_recv (q0 := 0) hK hP (q := (RLI, TLI, 1)) rfl rfl) [0] rfl z_true (fun _ _ _ => trivial)) rfl rfl hl.1 rfl (lv_room (Nat.le_of_ble_eq_true rfl)) dLI_shareOut_4 ⟨Nat.le_of_ble_eq_true rfl, Nat.le_of_ble_eq_true rfl⟩) (fun ws h_ws => ?_)
  refine lv_istore hx hb dLI_shareOut_7 hl (Nat.le_of_ble_eq_true rfl) rfl (fun ls hl => ?_)
  have hl : lv_has ls 12 [(5, .int ws), (0, .ref a), (1, .int am), (2, .ref a), (3, .int (nI i0)), (4, .int (nI e0))] := hl
  refine z_join (fun v1 : Int32 => True) (fun v1 => W p l e ({ frames := 1, cells := 0, slots := 0, locals := 24 }) s m [.ref a, .int am, .ref a, .int (nI i0), .int (nI e0)].toArray below meth c s.heap [] 0 0 Q (F0 m 19 ls (.int v1 :: []))) (fun v1 hv1 => ?_) (fun J19 => ?_)
  · refine lv_istore hx hb dLI_shareOut_19 hl (Nat.le_of_ble_eq_true rfl) rfl (fun ls hl => ?_)
    have hl : lv_has ls 12 [(6, .int v1), (5, .int ws), (0, .ref a), (1, .int am), (2, .ref a), (3, .int (nI i0)), (4, .int (nI e0))] := hl
    refine z_join (fun v2 : Int32 => True) (fun v2 => W p l e ({ frames := 1, cells := 0, slots := 0, locals := 24 }) s m [.ref a, .int am, .ref a, .int (nI i0), .int (nI e0)].toArray below meth c s.heap [] 0 0 Q (F0 m 35 ls (.int v2 :: []))) (fun v2 hv2 => ?_) (fun J35 => ?_)
    · refine lv_istore hx hb dLI_shareOut_35 hl (Nat.le_of_ble_eq_true rfl) rfl (fun ls hl => ?_)
      have hl : lv_has ls 12 [(7, .int v2), (6, .int v1), (5, .int ws), (0, .ref a), (1, .int am), (2, .ref a), (3, .int (nI i0)), (4, .int (nI e0))] := hl
      refine lv_iload hx hb dLI_shareOut_37 (lv_at hl 0 rfl) ?_
      refine lv_if_gt (tgt := 43) hx hb dLI_shareOut_39 rfl (fun h_d => ?_) (fun h_d => ?_)
      · refine lv_iload_n hx hb dLI_shareOut_43 rfl (lv_at hl 4 rfl) ?_
        refine lv_istore hx hb dLI_shareOut_44 hl (Nat.le_of_ble_eq_true rfl) rfl (fun ls hl => ?_)
        have hl : lv_has ls 12 [(8, .int am), (7, .int v2), (6, .int v1), (5, .int ws), (0, .ref a), (1, .int am), (2, .ref a), (3, .int (nI i0)), (4, .int (nI e0))] := hl
        refine lv_iload_n hx hb dLI_shareOut_46 rfl (lv_at hl 7 rfl) ?_
        refine lv_istore hx hb dLI_shareOut_47 hl (Nat.le_of_ble_eq_true rfl) rfl (fun ls hl => ?_)
        have hl : lv_has ls 12 [(9, .int (nI i0)), (8, .int am), (7, .int v2), (6, .int v1), (5, .int ws), (0, .ref a), (1, .int am), (2, .ref a), (3, .int (nI i0)), (4, .int (nI e0))] := hl
        refine zl_upW (σ := (Int32) × (Nat → Int32)) e0 (fun i x9 ls H locs => match x9 with | (lf, fo) => lv_has ls 12 [(9, .int (nI i)), (8, .int lf), (7, .int v2), (6, .int v1), (5, .int ws), (4, .int (nI e0)), (3, .int (nI i0)), (2, .ref a), (1, .int am), (0, .ref a)] ∧ va_P (dC, dI) vwCl ([zob a 4 [.ref qa], zar qa ka 12 fo] ++ T) H ∧ va_D A ([zob a 4 [.ref qa], zar qa ka 12 fo] ++ T) ∧ va_S A s.heap H locs) ?_ ?_ i0 (hi0) (am, f) ls s.heap [] ⟨lv_sub hl [0, 1, 2, 3, 4, 9, 8, 7, 6, 5] rfl, hP, hD, hS⟩
        · intro x9 ls H locs hI
          obtain ⟨lf, fo⟩ := x9
          obtain ⟨hl, hP, hD, hS⟩ := hI
          have hl : lv_has ls 12 [(9, .int (nI e0)), (8, .int lf), (7, .int v2), (6, .int v1), (5, .int ws), (4, .int (nI e0)), (3, .int (nI i0)), (2, .ref a), (1, .int am), (0, .ref a)] := hl
          have hP : va_P (dC, dI) vwCl ([zob a 4 [.ref qa], zar qa ka 12 fo] ++ T) H := hP
          have hD : va_D A ([zob a 4 [.ref qa], zar qa ka 12 fo] ++ T) := hD
          refine lv_iload hx hb dLI_shareOut_49 (lv_at hl 0 rfl) ?_
          refine lv_iload hx hb dLI_shareOut_51 (lv_at hl 5 rfl) ?_
          have t2 := nI_toInt (n := e0) (by omega)
          have t3 := nI_toInt (n := e0) (by omega)
          refine lv_icmp_ge (tgt := 108) hx hb dLI_shareOut_53 rfl (fun _ => ?_) (fun h => by have h := z_nle h; omega)
          refine lv_iload_n hx hb dLI_shareOut_108 rfl (lv_at hl 6 rfl) ?_
          refine lv_istore hx hb dLI_shareOut_109 hl (Nat.le_of_ble_eq_true rfl) rfl (fun ls hl => ?_)
          have hl : lv_has ls 12 [(9, .int (nI i0)), (8, .int lf), (7, .int v2), (6, .int v1), (5, .int ws), (4, .int (nI e0)), (3, .int (nI i0)), (2, .ref a), (1, .int am), (0, .ref a)] := hl
          refine zl_upW (σ := (Int32) × (Nat → Int32)) e0 (fun i x9 ls H locs => match x9 with | (lg, fp) => lv_has ls 12 [(9, .int (nI i)), (8, .int lg), (7, .int v2), (6, .int v1), (5, .int ws), (4, .int (nI e0)), (3, .int (nI i0)), (2, .ref a), (1, .int am), (0, .ref a)] ∧ va_P (dC, dI) vwCl ([zob a 4 [.ref qa], zar qa ka 12 fp] ++ T) H ∧ va_D A ([zob a 4 [.ref qa], zar qa ka 12 fp] ++ T) ∧ va_S A s.heap H locs) ?_ ?_ i0 (hi0) (lf, fo) ls H locs ⟨lv_sub hl [0, 1, 2, 3, 4, 5, 6, 7, 8, 9] rfl, hP, hD, hS⟩
          · intro x9 ls H locs hI
            obtain ⟨lg, fp⟩ := x9
            obtain ⟨hl, hP, hD, hS⟩ := hI
            have hl : lv_has ls 12 [(9, .int (nI e0)), (8, .int lg), (7, .int v2), (6, .int v1), (5, .int ws), (4, .int (nI e0)), (3, .int (nI i0)), (2, .ref a), (1, .int am), (0, .ref a)] := hl
            have hP : va_P (dC, dI) vwCl ([zob a 4 [.ref qa], zar qa ka 12 fp] ++ T) H := hP
            have hD : va_D A ([zob a 4 [.ref qa], zar qa ka 12 fp] ++ T) := hD
            refine lv_iload hx hb dLI_shareOut_111 (lv_at hl 0 rfl) ?_
            refine lv_iload hx hb dLI_shareOut_113 (lv_at hl 5 rfl) ?_
            have t4 := nI_toInt (n := e0) (by omega)
            have t5 := nI_toInt (n := e0) (by omega)
            refine lv_icmp_ge (tgt := 143) hx hb dLI_shareOut_115 rfl (fun _ => ?_) (fun h => by have h := z_nle h; omega)
            subst hQ
            exact zw_vret (D := (dC, dI)) (cl := vwCl) (A := A) fp hx hb hr hlocks (trivial) (zt_sub hP [0, 1] rfl) (hK.sub [] rfl) (zt_subD hD [0, 1] (by decide) rfl) hS dLI_shareOut_143
          · intro i hi ih
            intro x9 ls H locs hI
            obtain ⟨lg, fp⟩ := x9
            obtain ⟨hl, hP, hD, hS⟩ := hI
            have hl : lv_has ls 12 [(9, .int (nI i)), (8, .int lg), (7, .int v2), (6, .int v1), (5, .int ws), (4, .int (nI e0)), (3, .int (nI i0)), (2, .ref a), (1, .int am), (0, .ref a)] := hl
            have hP : va_P (dC, dI) vwCl ([zob a 4 [.ref qa], zar qa ka 12 fp] ++ T) H := hP
            have hD : va_D A ([zob a 4 [.ref qa], zar qa ka 12 fp] ++ T) := hD
            refine lv_iload hx hb dLI_shareOut_111 (lv_at hl 0 rfl) ?_
            refine lv_iload hx hb dLI_shareOut_113 (lv_at hl 5 rfl) ?_
            have t6 := nI_toInt (n := i) (by omega)
            have t7 := nI_toInt (n := e0) (by omega)
            refine lv_icmp_ge (tgt := 143) hx hb dLI_shareOut_115 rfl (fun h => by have h := z_le h; omega) (fun _ => ?_)
            refine lv_iload hx hb dLI_shareOut_118 (lv_at hl 1 rfl) ?_
            refine lv_if_le (tgt := 143) hx hb dLI_shareOut_120 rfl (fun h8 => ?_) (fun h8 => ?_)
            · subst hQ
              exact zw_vret (D := (dC, dI)) (cl := vwCl) (A := A) fp hx hb hr hlocks (trivial) (zt_sub hP [0, 1] rfl) (hK.sub [] rfl) (zt_subD hD [0, 1] (by decide) rfl) hS dLI_shareOut_143
            · refine lv_aload_n hx hb dLI_shareOut_123 rfl (lv_at hl 9 rfl) ?_
              refine va_get (D := (dC, dI)) (ci := 4) (v := .ref qa) (C := RLI) (T := TLI) (N := 1) hx hb hz in_LI hown hK hP 0 rfl rfl 0 (by decide) (hz _ wd_116) (fun _ h9 => h9) rfl dLI_shareOut_124 ?_
              refine lv_iload hx hb dLI_shareOut_127 (lv_at hl 0 rfl) ?_
              refine lv_dup2_11 hx hb dLI_shareOut_129 rfl rfl ?_
              refine va_iald hx hb hK hP 1 0 rfl rfl (vp_in_nI (by omega) (by omega)) dLI_shareOut_130 ?_
              refine lv_topi (fun y9 _ => ?_)
              refine lv_iconst (v := nI 1) hx hb dLI_shareOut_131 (by decide) ?_
              refine lv_iadd hx hb dLI_shareOut_132 ?_
              refine lv_topi (fun y10 _ => ?_)
              refine va_iast hx hb hK hP hD hS 1 0 rfl rfl (vp_in_nI (by omega) (by omega)) dLI_shareOut_133 (fun H locs hP hD hS => ?_)
              have hP : va_P (dC, dI) vwCl ([zob a 4 [.ref qa], zar qa ka 12 (upd fp (nI i).toNatClampNeg y10)] ++ T) H := hP
              have hD : va_D A ([zob a 4 [.ref qa], zar qa ka 12 (upd fp (nI i).toNatClampNeg y10)] ++ T) := hD
              obtain ⟨w11, e_w⟩ : ∃ f9 : Nat → Int32, f9 = upd fp (nI i).toNatClampNeg y10 := ⟨_, rfl⟩
              rw [← e_w] at hP hD
              have hP : va_P (dC, dI) vwCl ([zob a 4 [.ref qa], zar qa ka 12 w11] ++ T) H := hP
              have hD : va_D A ([zob a 4 [.ref qa], zar qa ka 12 w11] ++ T) := hD
              refine lv_iinc (k := 1) (v := lg + Int32.ofInt (-1)) hx hb dLI_shareOut_134 hl rfl (rfl) (Nat.le_of_ble_eq_true rfl) rfl (fun ls hl => ?_)
              have hl : lv_has ls 12 [(8, .int (lg + Int32.ofInt (-1))), (9, .int (nI i)), (7, .int v2), (6, .int v1), (5, .int ws), (4, .int (nI e0)), (3, .int (nI i0)), (2, .ref a), (1, .int am), (0, .ref a)] := hl
              refine lv_iinc (k := 1) (v := nI (i + 1)) hx hb dLI_shareOut_137 hl rfl (by rw [show Int32.ofInt 1 = nI 1 from by decide]; exact nI_add _ _) (Nat.le_of_ble_eq_true rfl) rfl (fun ls hl => ?_)
              have hl : lv_has ls 12 [(9, .int (nI (i + 1))), (8, .int (lg + Int32.ofInt (-1))), (7, .int v2), (6, .int v1), (5, .int ws), (4, .int (nI e0)), (3, .int (nI i0)), (2, .ref a), (1, .int am), (0, .ref a)] := hl
              refine lv_goto (tgt := 111) hx hb dLI_shareOut_140 rfl ?_
              exact ih (lg + Int32.ofInt (-1), w11) ls H locs ⟨lv_sub hl [0, 1, 2, 3, 4, 5, 6, 7, 8, 9] rfl, hP, hD, hS⟩
        · intro i hi ih
          intro x9 ls H locs hI
          obtain ⟨lf, fo⟩ := x9
          obtain ⟨hl, hP, hD, hS⟩ := hI
          have hl : lv_has ls 12 [(9, .int (nI i)), (8, .int lf), (7, .int v2), (6, .int v1), (5, .int ws), (4, .int (nI e0)), (3, .int (nI i0)), (2, .ref a), (1, .int am), (0, .ref a)] := hl
          have hP : va_P (dC, dI) vwCl ([zob a 4 [.ref qa], zar qa ka 12 fo] ++ T) H := hP
          have hD : va_D A ([zob a 4 [.ref qa], zar qa ka 12 fo] ++ T) := hD
          refine lv_iload hx hb dLI_shareOut_49 (lv_at hl 0 rfl) ?_
          refine lv_iload hx hb dLI_shareOut_51 (lv_at hl 5 rfl) ?_
          have t12 := nI_toInt (n := i) (by omega)
          have t13 := nI_toInt (n := e0) (by omega)
          refine lv_icmp_ge (tgt := 108) hx hb dLI_shareOut_53 rfl (fun h => by have h := z_le h; omega) (fun _ => ?_)
          refine z_join (fun v3 : Int32 => True) (fun v3 => W p l e ({ frames := 1, cells := 0, slots := 0, locals := 24 }) s m [.ref a, .int am, .ref a, .int (nI i0), .int (nI e0)].toArray below meth c H locs 0 0 Q (F0 m 72 ls (.int v3 :: []))) (fun v3 hv3 => ?_) (fun J72 => ?_)
          · refine lv_istore hx hb dLI_shareOut_72 hl (Nat.le_of_ble_eq_true rfl) rfl (fun ls hl => ?_)
            have hl : lv_has ls 12 [(10, .int v3), (9, .int (nI i)), (8, .int lf), (7, .int v2), (6, .int v1), (5, .int ws), (4, .int (nI e0)), (3, .int (nI i0)), (2, .ref a), (1, .int am), (0, .ref a)] := hl
            refine lv_iload_n hx hb dLI_shareOut_74 rfl (lv_at hl 9 rfl) ?_
            refine lv_iload hx hb dLI_shareOut_75 (lv_at hl 0 rfl) ?_
            refine lv_imul hx hb dLI_shareOut_77 ?_
            refine lv_topi (fun y14 _ => ?_)
            refine lv_iload hx hb dLI_shareOut_78 (lv_at hl 3 rfl) ?_
            refine lv_idiv hx hb dLI_shareOut_80 (fun h9 => by rw [h9] at h_d; exact absurd h_d (by decide)) ?_
            refine lv_topi (fun y15 _ => ?_)
            refine lv_istore hx hb dLI_shareOut_81 hl (Nat.le_of_ble_eq_true rfl) rfl (fun ls hl => ?_)
            have hl : lv_has ls 12 [(11, .int y15), (10, .int v3), (9, .int (nI i)), (8, .int lf), (7, .int v2), (6, .int v1), (5, .int ws), (4, .int (nI e0)), (3, .int (nI i0)), (2, .ref a), (1, .int am), (0, .ref a)] := hl
            refine lv_aload_n hx hb dLI_shareOut_83 rfl (lv_at hl 11 rfl) ?_
            refine va_get (D := (dC, dI)) (ci := 4) (v := .ref qa) (C := RLI) (T := TLI) (N := 1) hx hb hz in_LI hown hK hP 0 rfl rfl 0 (by decide) (hz _ wd_116) (fun _ h9 => h9) rfl dLI_shareOut_84 ?_
            refine lv_iload hx hb dLI_shareOut_87 (lv_at hl 2 rfl) ?_
            refine lv_dup2_11 hx hb dLI_shareOut_89 rfl rfl ?_
            refine va_iald hx hb hK hP 1 0 rfl rfl (vp_in_nI (by omega) (by omega)) dLI_shareOut_90 ?_
            refine lv_topi (fun y16 _ => ?_)
            refine lv_iload hx hb dLI_shareOut_91 (lv_at hl 0 rfl) ?_
            refine lv_iadd hx hb dLI_shareOut_93 ?_
            refine lv_topi (fun y17 _ => ?_)
            refine va_iast hx hb hK hP hD hS 1 0 rfl rfl (vp_in_nI (by omega) (by omega)) dLI_shareOut_94 (fun H locs hP hD hS => ?_)
            have hP : va_P (dC, dI) vwCl ([zob a 4 [.ref qa], zar qa ka 12 (upd fo (nI i).toNatClampNeg y17)] ++ T) H := hP
            have hD : va_D A ([zob a 4 [.ref qa], zar qa ka 12 (upd fo (nI i).toNatClampNeg y17)] ++ T) := hD
            obtain ⟨w18, e_w⟩ : ∃ f9 : Nat → Int32, f9 = upd fo (nI i).toNatClampNeg y17 := ⟨_, rfl⟩
            rw [← e_w] at hP hD
            have hP : va_P (dC, dI) vwCl ([zob a 4 [.ref qa], zar qa ka 12 w18] ++ T) H := hP
            have hD : va_D A ([zob a 4 [.ref qa], zar qa ka 12 w18] ++ T) := hD
            refine lv_iload hx hb dLI_shareOut_95 (lv_at hl 3 rfl) ?_
            refine lv_iload hx hb dLI_shareOut_97 (lv_at hl 0 rfl) ?_
            refine lv_isub hx hb dLI_shareOut_99 ?_
            refine lv_topi (fun y19 _ => ?_)
            refine lv_istore hx hb dLI_shareOut_100 hl (Nat.le_of_ble_eq_true rfl) rfl (fun ls hl => ?_)
            have hl : lv_has ls 12 [(8, .int y19), (11, .int y15), (10, .int v3), (9, .int (nI i)), (7, .int v2), (6, .int v1), (5, .int ws), (4, .int (nI e0)), (3, .int (nI i0)), (2, .ref a), (1, .int am), (0, .ref a)] := hl
            refine lv_iinc (k := 3) (v := nI (i + 1)) hx hb dLI_shareOut_102 hl rfl (by rw [show Int32.ofInt 1 = nI 1 from by decide]; exact nI_add _ _) (Nat.le_of_ble_eq_true rfl) rfl (fun ls hl => ?_)
            have hl : lv_has ls 12 [(9, .int (nI (i + 1))), (8, .int y19), (11, .int y15), (10, .int v3), (7, .int v2), (6, .int v1), (5, .int ws), (4, .int (nI e0)), (3, .int (nI i0)), (2, .ref a), (1, .int am), (0, .ref a)] := hl
            refine lv_goto (tgt := 49) hx hb dLI_shareOut_105 rfl ?_
            exact ih (y19, w18) ls H locs ⟨lv_sub hl [0, 1, 4, 5, 6, 7, 8, 9, 10, 11] rfl, hP, hD, hS⟩
          · refine lv_iload hx hb dLI_shareOut_56 (lv_at hl 3 rfl) ?_
            refine lv_if_eq (tgt := 65) hx hb dLI_shareOut_58 rfl (fun h20 => ?_) (fun h20 => ?_)
            · refine lv_aload_n hx hb dLI_shareOut_65 rfl (lv_at hl 7 rfl) ?_
              refine va_get (D := (dC, dI)) (ci := 4) (v := .ref qa) (C := RLI) (T := TLI) (N := 1) hx hb hz in_LI hown hK hP 0 rfl rfl 0 (by decide) (hz _ wd_116) (fun _ h9 => h9) rfl dLI_shareOut_66 ?_
              refine lv_iload hx hb dLI_shareOut_69 (lv_at hl 0 rfl) ?_
              refine va_iald hx hb hK hP 1 0 rfl rfl (vp_in_nI (by omega) (by omega)) dLI_shareOut_71 ?_
              refine lv_topi (fun y21 _ => ?_)
              exact J72 _ (trivial)
            · refine lv_iconst (v := nI 1) hx hb dLI_shareOut_61 (by decide) ?_
              refine lv_goto (tgt := 72) hx hb dLI_shareOut_62 rfl ?_
              exact J72 _ (trivial)
      · subst hQ
        exact zw_vret (D := (dC, dI)) (cl := vwCl) (A := A) f hx hb hr hlocks (trivial) (zt_sub hP [0, 1] rfl) (hK.sub [] rfl) (zt_subD hD [0, 1] (by decide) rfl) hS dLI_shareOut_42
    · refine lv_iload hx hb dLI_shareOut_21 (lv_at hl 0 rfl) ?_
      refine lv_if_eq (tgt := 33) hx hb dLI_shareOut_23 rfl (fun h22 => ?_) (fun h22 => ?_)
      · refine lv_iload hx hb dLI_shareOut_33 (lv_at hl 1 rfl) ?_
        exact J35 _ (trivial)
      · refine lv_iload hx hb dLI_shareOut_26 (lv_at hl 6 rfl) ?_
        refine lv_iload_n hx hb dLI_shareOut_28 rfl (lv_at hl 5 rfl) ?_
        refine lv_isub hx hb dLI_shareOut_29 ?_
        refine lv_topi (fun y23 _ => ?_)
        refine lv_goto (tgt := 35) hx hb dLI_shareOut_30 rfl ?_
        exact J35 _ (trivial)
  · refine lv_iload hx hb dLI_shareOut_9 (lv_at hl 0 rfl) ?_
    refine lv_if_ne (tgt := 18) hx hb dLI_shareOut_11 rfl (fun h24 => ?_) (fun h24 => ?_)
    · refine lv_iconst (v := nI 0) hx hb dLI_shareOut_18 (by decide) ?_
      exact J19 _ (trivial)
    · refine lv_iconst (v := nI 1) hx hb dLI_shareOut_14 (by decide) ?_
      refine lv_goto (tgt := 19) hx hb dLI_shareOut_15 rfl ?_
      exact J19 _ (trivial)

set_option maxHeartbeats 4000000 in
set_option maxRecDepth 100000 in
theorem f_LI_stretch (l : Launch) (dC : Nat → ClassId) (dI : Nat → Nat → Nat) (T : va_W) (a : Nat) (qa : Nat) (ka : ClassId) (f : Nat → Int32) (b : Nat) (qb : Nat) (kb : ClassId) (fb : Nat → Int32) (wa : Int32) (gp : Nat) (i0 : Nat) (e0 : Nat) (hi0 : i0 ≤ e0) (he0 : e0 ≤ 12) : zw_Mv (S := (Nat → Int32)) l yLI_stretch wLI_stretch ({ frames := 2, cells := 0, slots := 0, locals := 55 }) [.ref a, .int wa, .int (nI gp), .ref b, .int (nI i0), .int (nI e0)] (dC, dI) vwCl ([zob a 4 [.ref qa], zar qa ka 12 f, zob b 4 [.ref qb], zar qb kb 12 fb] ++ T) [(ka, .int), (kb, .int)] (fun _ _ => True) (fun (f2 : Nat → Int32) => True) (fun (f2 : Nat → Int32) => ([zob a 4 [.ref qa], zar qa ka 12 f2, zob b 4 [.ref qb], zar qb kb 12 fb] ++ T)) (fun (f2 : Nat → Int32) => []) 0 0 := by
  refine zw_headv (cc := cLI_stretch) (maxL := 7) (ret := none) (by decide +kernel) rfl (Nat.le_of_ble_eq_true rfl) ?_
  intro p e s m below meth c ls A F hnm hA hP hK hD hS hX hl
  obtain ⟨hx, hb, hml, hr, hlocks, hown, hts⟩ := F
  have hown : s.vm.findClass "SpannedCells$Lines" = some m.cls := hown
  have hz : ∀ w9 ∈ zT, w9.before [.ref a, .int wa, .int (nI gp), .ref b, .int (nI i0), .int (nI e0)].toArray s = true := fun w9 h => hts w9 (List.mem_cons_of_mem _ h)
  have hl : lv_has ls 7 [(0, .ref a), (1, .int wa), (2, .int (nI gp)), (3, .ref b), (4, .int (nI i0)), (5, .int (nI e0))] := hl
  refine z_q (fun Q hQ => ?_)
  refine lv_iload_n hx hb dLI_stretch_0 rfl (lv_at hl 1 rfl) ?_
  refine lv_aload_n hx hb dLI_stretch_1 rfl (lv_at hl 0 rfl) ?_
  refine lv_iload hx hb dLI_stretch_2 (lv_at hl 4 rfl) ?_
  refine lv_iload hx hb dLI_stretch_4 (lv_at hl 5 rfl) ?_
  refine lv_iload_n hx hb dLI_stretch_6 rfl (lv_at hl 2 rfl) ?_
  refine vp_callSi (W.runV (As := [.int (nI i0), .int (nI e0), .int (nI gp)]) (rest := [.int wa]) ⟨hx, hb, hml, hown, hz⟩ (f_LI_reach l dC dI a qa ka f i0 e0 gp (by omega) (by omega)) (cwV 3 hz (z_gV wd_475 wd_476 wd_477 wd_35 wd_478) rfl rfl rfl (by decide +kernel) ⟨Nat.le_of_ble_eq_true rfl, Nat.le_of_ble_eq_true rfl⟩) (zr_preV hK (hP.sub [0, 1] rfl) (va_recv (q0 := 0) hK hP (q := (RLI, TLI, 1)) rfl rfl) [0] rfl z_true (fun _ _ _ => trivial)) rfl rfl hl.1 rfl (lv_room (Nat.le_of_ble_eq_true rfl)) dLI_stretch_7 ⟨Nat.le_of_ble_eq_true rfl, Nat.le_of_ble_eq_true rfl⟩) (fun r1 h_r1 => ?_)
  refine lv_isub hx hb dLI_stretch_10 ?_
  refine lv_topi (fun y2 _ => ?_)
  refine lv_istore hx hb dLI_stretch_11 hl (Nat.le_of_ble_eq_true rfl) rfl (fun ls hl => ?_)
  have hl : lv_has ls 7 [(6, .int y2), (0, .ref a), (1, .int wa), (2, .int (nI gp)), (3, .ref b), (4, .int (nI i0)), (5, .int (nI e0))] := hl
  refine lv_iload hx hb dLI_stretch_13 (lv_at hl 0 rfl) ?_
  refine lv_if_le (tgt := 29) hx hb dLI_stretch_15 rfl (fun h3 => ?_) (fun h3 => ?_)
  · subst hQ
    exact zw_vret (D := (dC, dI)) (cl := vwCl) (A := A) f hx hb hr hlocks (trivial) (zt_sub hP [0, 1, 2, 3] rfl) (hK.sub [] rfl) (zt_subD hD [0, 1, 2, 3] (by decide) rfl) hS dLI_stretch_29
  · refine lv_aload_n hx hb dLI_stretch_18 rfl (lv_at hl 1 rfl) ?_
    refine lv_iload hx hb dLI_stretch_19 (lv_at hl 0 rfl) ?_
    refine lv_aload_n hx hb dLI_stretch_21 rfl (lv_at hl 4 rfl) ?_
    refine lv_iload hx hb dLI_stretch_22 (lv_at hl 5 rfl) ?_
    refine lv_iload hx hb dLI_stretch_24 (lv_at hl 6 rfl) ?_
    refine zw_callTv (wr := []) hK hP hD hS hA [0, 1, 2, 3] [] rfl rfl (by decide) (by decide) (va_runV (As := [.int y2, .ref b, .int (nI i0), .int (nI e0)]) (rest := []) ⟨hx, hb, hml, hown, hz⟩ ((f_LI_shareOut l dC dI T a qa ka f b qb kb fb y2 i0 e0 (by omega) (by omega)) s.heap.size) (cwV 4 hz (z_gV wd_483 wd_484 wd_485 wd_35 wd_486) rfl rfl rfl (by decide +kernel) ⟨Nat.le_of_ble_eq_true rfl, Nat.le_of_ble_eq_true rfl⟩) (zw_preVT hK hP hD (va_recv (q0 := 0) hK hP (q := (RLI, TLI, 1)) rfl rfl) [0, 1, 2, 3] (by decide) rfl [0, 1] rfl z_true (fun _ _ _ => trivial)) rfl rfl hl.1 rfl (lv_room (Nat.le_of_ble_eq_true rfl)) dLI_stretch_26 ⟨Nat.le_of_ble_eq_true rfl, Nat.le_of_ble_eq_true rfl⟩) (fun u H locs h_r5 hP hD hK hS => ?_)
    obtain ⟨f_4, rfl⟩ : ∃ z, z = u := ⟨_, rfl⟩
    have hP : va_P (dC, dI) vwCl ([zob a 4 [.ref qa], zar qa ka 12 f_4, zob b 4 [.ref qb], zar qb kb 12 fb] ++ T) H := zt_sub hP [0, 1, 2, 3] rfl
    have hD : va_D A ([zob a 4 [.ref qa], zar qa ka 12 f_4, zob b 4 [.ref qb], zar qb kb 12 fb] ++ T) := zt_subD hD [0, 1, 2, 3] (by decide) rfl
    have hK : va_K (dC, dI) vwCl [(ka, .int), (kb, .int)] s := hK
    subst hQ
    exact zw_vret (D := (dC, dI)) (cl := vwCl) (A := A) f_4 hx hb hr hlocks (trivial) (zt_sub hP [0, 1, 2, 3] rfl) (hK.sub [] rfl) (zt_subD hD [0, 1, 2, 3] (by decide) rfl) hS dLI_stretch_29

set_option maxHeartbeats 4000000 in
set_option maxRecDepth 100000 in
theorem f_LI_stretchA (l : Launch) (dC : Nat → ClassId) (dI : Nat → Nat → Nat) (T : va_W) (a : Nat) (qa : Nat) (ka : ClassId) (f : Nat → Int32) (wa : Int32) (gp : Nat) (i0 : Nat) (e0 : Nat) (hi0 : i0 ≤ e0) (he0 : e0 ≤ 12) : zw_Mv (S := (Nat → Int32)) l yLI_stretch wLI_stretch ({ frames := 2, cells := 0, slots := 0, locals := 55 }) [.ref a, .int wa, .int (nI gp), .ref a, .int (nI i0), .int (nI e0)] (dC, dI) vwCl ([zob a 4 [.ref qa], zar qa ka 12 f] ++ T) [(ka, .int)] (fun _ _ => True) (fun (f2 : Nat → Int32) => True) (fun (f2 : Nat → Int32) => ([zob a 4 [.ref qa], zar qa ka 12 f2] ++ T)) (fun (f2 : Nat → Int32) => []) 0 0 := by
  refine zw_headv (cc := cLI_stretch) (maxL := 7) (ret := none) (by decide +kernel) rfl (Nat.le_of_ble_eq_true rfl) ?_
  intro p e s m below meth c ls A F hnm hA hP hK hD hS hX hl
  obtain ⟨hx, hb, hml, hr, hlocks, hown, hts⟩ := F
  have hown : s.vm.findClass "SpannedCells$Lines" = some m.cls := hown
  have hz : ∀ w9 ∈ zT, w9.before [.ref a, .int wa, .int (nI gp), .ref a, .int (nI i0), .int (nI e0)].toArray s = true := fun w9 h => hts w9 (List.mem_cons_of_mem _ h)
  have hl : lv_has ls 7 [(0, .ref a), (1, .int wa), (2, .int (nI gp)), (3, .ref a), (4, .int (nI i0)), (5, .int (nI e0))] := hl
  refine z_q (fun Q hQ => ?_)
  refine lv_iload_n hx hb dLI_stretch_0 rfl (lv_at hl 1 rfl) ?_
  refine lv_aload_n hx hb dLI_stretch_1 rfl (lv_at hl 0 rfl) ?_
  refine lv_iload hx hb dLI_stretch_2 (lv_at hl 4 rfl) ?_
  refine lv_iload hx hb dLI_stretch_4 (lv_at hl 5 rfl) ?_
  refine lv_iload_n hx hb dLI_stretch_6 rfl (lv_at hl 2 rfl) ?_
  refine vp_callSi (W.runV (As := [.int (nI i0), .int (nI e0), .int (nI gp)]) (rest := [.int wa]) ⟨hx, hb, hml, hown, hz⟩ (f_LI_reach l dC dI a qa ka f i0 e0 gp (by omega) (by omega)) (cwV 3 hz (z_gV wd_475 wd_476 wd_477 wd_35 wd_478) rfl rfl rfl (by decide +kernel) ⟨Nat.le_of_ble_eq_true rfl, Nat.le_of_ble_eq_true rfl⟩) (zr_preV hK (hP.sub [0, 1] rfl) (va_recv (q0 := 0) hK hP (q := (RLI, TLI, 1)) rfl rfl) [0] rfl z_true (fun _ _ _ => trivial)) rfl rfl hl.1 rfl (lv_room (Nat.le_of_ble_eq_true rfl)) dLI_stretch_7 ⟨Nat.le_of_ble_eq_true rfl, Nat.le_of_ble_eq_true rfl⟩) (fun r1 h_r1 => ?_)
  refine lv_isub hx hb dLI_stretch_10 ?_
  refine lv_topi (fun y2 _ => ?_)
  refine lv_istore hx hb dLI_stretch_11 hl (Nat.le_of_ble_eq_true rfl) rfl (fun ls hl => ?_)
  have hl : lv_has ls 7 [(6, .int y2), (0, .ref a), (1, .int wa), (2, .int (nI gp)), (3, .ref a), (4, .int (nI i0)), (5, .int (nI e0))] := hl
  refine lv_iload hx hb dLI_stretch_13 (lv_at hl 0 rfl) ?_
  refine lv_if_le (tgt := 29) hx hb dLI_stretch_15 rfl (fun h3 => ?_) (fun h3 => ?_)
  · subst hQ
    exact zw_vret (D := (dC, dI)) (cl := vwCl) (A := A) f hx hb hr hlocks (trivial) (zt_sub hP [0, 1] rfl) (hK.sub [] rfl) (zt_subD hD [0, 1] (by decide) rfl) hS dLI_stretch_29
  · refine lv_aload_n hx hb dLI_stretch_18 rfl (lv_at hl 1 rfl) ?_
    refine lv_iload hx hb dLI_stretch_19 (lv_at hl 0 rfl) ?_
    refine lv_aload_n hx hb dLI_stretch_21 rfl (lv_at hl 4 rfl) ?_
    refine lv_iload hx hb dLI_stretch_22 (lv_at hl 5 rfl) ?_
    refine lv_iload hx hb dLI_stretch_24 (lv_at hl 6 rfl) ?_
    refine zw_callTv (wr := []) hK hP hD hS hA [0, 1] [] rfl rfl (by decide) (by decide) (va_runV (As := [.int y2, .ref a, .int (nI i0), .int (nI e0)]) (rest := []) ⟨hx, hb, hml, hown, hz⟩ ((f_LI_shareOutA l dC dI T a qa ka f y2 i0 e0 (by omega) (by omega)) s.heap.size) (cwV 4 hz (z_gV wd_483 wd_484 wd_485 wd_35 wd_486) rfl rfl rfl (by decide +kernel) ⟨Nat.le_of_ble_eq_true rfl, Nat.le_of_ble_eq_true rfl⟩) (zw_preVT hK hP hD (va_recv (q0 := 0) hK hP (q := (RLI, TLI, 1)) rfl rfl) [0, 1] (by decide) rfl [0] rfl z_true (fun _ _ _ => trivial)) rfl rfl hl.1 rfl (lv_room (Nat.le_of_ble_eq_true rfl)) dLI_stretch_26 ⟨Nat.le_of_ble_eq_true rfl, Nat.le_of_ble_eq_true rfl⟩) (fun u H locs h_r5 hP hD hK hS => ?_)
    obtain ⟨f_4, rfl⟩ : ∃ z, z = u := ⟨_, rfl⟩
    have hP : va_P (dC, dI) vwCl ([zob a 4 [.ref qa], zar qa ka 12 f_4] ++ T) H := zt_sub hP [0, 1] rfl
    have hD : va_D A ([zob a 4 [.ref qa], zar qa ka 12 f_4] ++ T) := zt_subD hD [0, 1] (by decide) rfl
    have hK : va_K (dC, dI) vwCl [(ka, .int)] s := hK
    subst hQ
    exact zw_vret (D := (dC, dI)) (cl := vwCl) (A := A) f_4 hx hb hr hlocks (trivial) (zt_sub hP [0, 1] rfl) (hK.sub [] rfl) (zt_subD hD [0, 1] (by decide) rfl) hS dLI_stretch_29

set_option maxHeartbeats 4000000 in
set_option maxRecDepth 100000 in
theorem f_LI_raiseTo (l : Launch) (dC : Nat → ClassId) (dI : Nat → Nat → Nat) (T : va_W) (a : Nat) (qa : Nat) (ka : ClassId) (f : Nat → Int32) (b : Nat) (qb : Nat) (kb : ClassId) (fb : Nat → Int32) (i0 : Nat) (e0 : Nat) (hi0 : i0 ≤ e0) (he0 : e0 ≤ 12) : zw_Mv (S := (Nat → Int32)) l yLI_raiseTo wLI_raiseTo ({ frames := 1, cells := 0, slots := 0, locals := 15 }) [.ref a, .ref b, .int (nI i0), .int (nI e0)] (dC, dI) vwCl ([zob a 4 [.ref qa], zar qa ka 12 f, zob b 4 [.ref qb], zar qb kb 12 fb] ++ T) [(ka, .int), (kb, .int)] (fun _ _ => True) (fun (f2 : Nat → Int32) => True) (fun (f2 : Nat → Int32) => ([zob a 4 [.ref qa], zar qa ka 12 f2, zob b 4 [.ref qb], zar qb kb 12 fb] ++ T)) (fun (f2 : Nat → Int32) => []) 0 0 := by
  refine zw_headv (cc := cLI_raiseTo) (maxL := 5) (ret := none) (by decide +kernel) rfl (Nat.le_of_ble_eq_true rfl) ?_
  intro p e s m below meth c ls A F hnm hA hP hK hD hS hX hl
  obtain ⟨hx, hb, hml, hr, hlocks, hown, hts⟩ := F
  have hown : s.vm.findClass "SpannedCells$Lines" = some m.cls := hown
  have hz : ∀ w9 ∈ zT, w9.before [.ref a, .ref b, .int (nI i0), .int (nI e0)].toArray s = true := fun w9 h => hts w9 (List.mem_cons_of_mem _ h)
  have hl : lv_has ls 5 [(0, .ref a), (1, .ref b), (2, .int (nI i0)), (3, .int (nI e0))] := hl
  refine z_q (fun Q hQ => ?_)
  refine lv_iload_n hx hb dLI_raiseTo_0 rfl (lv_at hl 2 rfl) ?_
  refine lv_istore hx hb dLI_raiseTo_1 hl (Nat.le_of_ble_eq_true rfl) rfl (fun ls hl => ?_)
  have hl : lv_has ls 5 [(4, .int (nI i0)), (0, .ref a), (1, .ref b), (2, .int (nI i0)), (3, .int (nI e0))] := hl
  refine zl_upW (σ := (Nat → Int32)) e0 (fun i fo ls H locs => lv_has ls 5 [(4, .int (nI i)), (3, .int (nI e0)), (2, .int (nI i0)), (1, .ref b), (0, .ref a)] ∧ va_P (dC, dI) vwCl ([zob a 4 [.ref qa], zar qa ka 12 fo, zob b 4 [.ref qb], zar qb kb 12 fb] ++ T) H ∧ va_D A ([zob a 4 [.ref qa], zar qa ka 12 fo, zob b 4 [.ref qb], zar qb kb 12 fb] ++ T) ∧ va_S A s.heap H locs) ?_ ?_ i0 (hi0) f ls s.heap [] ⟨lv_sub hl [0, 4, 3, 2, 1] rfl, hP, hD, hS⟩
  · intro x9 ls H locs hI
    obtain ⟨fo, rfl⟩ : ∃ z, z = x9 := ⟨_, rfl⟩
    obtain ⟨hl, hP, hD, hS⟩ := hI
    have hl : lv_has ls 5 [(4, .int (nI e0)), (3, .int (nI e0)), (2, .int (nI i0)), (1, .ref b), (0, .ref a)] := hl
    have hP : va_P (dC, dI) vwCl ([zob a 4 [.ref qa], zar qa ka 12 fo, zob b 4 [.ref qb], zar qb kb 12 fb] ++ T) H := hP
    have hD : va_D A ([zob a 4 [.ref qa], zar qa ka 12 fo, zob b 4 [.ref qb], zar qb kb 12 fb] ++ T) := hD
    refine lv_iload hx hb dLI_raiseTo_3 (lv_at hl 0 rfl) ?_
    refine lv_iload_n hx hb dLI_raiseTo_5 rfl (lv_at hl 1 rfl) ?_
    have t1 := nI_toInt (n := e0) (by omega)
    have t2 := nI_toInt (n := e0) (by omega)
    refine lv_icmp_ge (tgt := 39) hx hb dLI_raiseTo_6 rfl (fun _ => ?_) (fun h => by have h := z_nle h; omega)
    subst hQ
    exact zw_vret (D := (dC, dI)) (cl := vwCl) (A := A) fo hx hb hr hlocks (trivial) (zt_sub hP [0, 1, 2, 3] rfl) (hK.sub [] rfl) (zt_subD hD [0, 1, 2, 3] (by decide) rfl) hS dLI_raiseTo_39
  · intro i hi ih
    intro x9 ls H locs hI
    obtain ⟨fo, rfl⟩ : ∃ z, z = x9 := ⟨_, rfl⟩
    obtain ⟨hl, hP, hD, hS⟩ := hI
    have hl : lv_has ls 5 [(4, .int (nI i)), (3, .int (nI e0)), (2, .int (nI i0)), (1, .ref b), (0, .ref a)] := hl
    have hP : va_P (dC, dI) vwCl ([zob a 4 [.ref qa], zar qa ka 12 fo, zob b 4 [.ref qb], zar qb kb 12 fb] ++ T) H := hP
    have hD : va_D A ([zob a 4 [.ref qa], zar qa ka 12 fo, zob b 4 [.ref qb], zar qb kb 12 fb] ++ T) := hD
    refine lv_iload hx hb dLI_raiseTo_3 (lv_at hl 0 rfl) ?_
    refine lv_iload_n hx hb dLI_raiseTo_5 rfl (lv_at hl 1 rfl) ?_
    have t3 := nI_toInt (n := i) (by omega)
    have t4 := nI_toInt (n := e0) (by omega)
    refine lv_icmp_ge (tgt := 39) hx hb dLI_raiseTo_6 rfl (fun h => by have h := z_le h; omega) (fun _ => ?_)
    refine lv_aload_n hx hb dLI_raiseTo_9 rfl (lv_at hl 4 rfl) ?_
    refine va_get (D := (dC, dI)) (ci := 4) (v := .ref qa) (C := RLI) (T := TLI) (N := 1) hx hb hz in_LI hown hK hP 0 rfl rfl 0 (by decide) (hz _ wd_116) (fun _ h9 => h9) rfl dLI_raiseTo_10 ?_
    refine lv_iload hx hb dLI_raiseTo_13 (lv_at hl 0 rfl) ?_
    refine lv_aload_n hx hb dLI_raiseTo_15 rfl (lv_at hl 4 rfl) ?_
    refine va_get (D := (dC, dI)) (ci := 4) (v := .ref qa) (C := RLI) (T := TLI) (N := 1) hx hb hz in_LI hown hK hP 0 rfl rfl 0 (by decide) (hz _ wd_116) (fun _ h9 => h9) rfl dLI_raiseTo_16 ?_
    refine lv_iload hx hb dLI_raiseTo_19 (lv_at hl 0 rfl) ?_
    refine va_iald hx hb hK hP 1 0 rfl rfl (vp_in_nI (by omega) (by omega)) dLI_raiseTo_21 ?_
    refine lv_topi (fun y5 _ => ?_)
    refine lv_aload_n hx hb dLI_raiseTo_22 rfl (lv_at hl 3 rfl) ?_
    refine va_get (D := (dC, dI)) (ci := 4) (v := .ref qb) (C := RLI) (T := TLI) (N := 1) hx hb hz in_LI hown hK hP 2 rfl rfl 0 (by decide) (hz _ wd_116) (fun _ h9 => h9) rfl dLI_raiseTo_23 ?_
    refine lv_iload hx hb dLI_raiseTo_26 (lv_at hl 0 rfl) ?_
    refine va_iald hx hb hK hP 3 1 rfl rfl (vp_in_nI (by omega) (by omega)) dLI_raiseTo_28 ?_
    refine lv_topi (fun y6 _ => ?_)
    refine va_mmax hx hb (hml.trans hl.1.symm) hown (hz _ wd_491) (hz _ wd_190) (hz _ wd_38) (hz _ wd_191) (Nat.le_of_ble_eq_true rfl) (Nat.le_of_ble_eq_true rfl) (Nat.le_of_ble_eq_true rfl) (Nat.le_of_ble_eq_true rfl) dLI_raiseTo_29 ?_
    refine lv_topi (fun y7 _ => ?_)
    refine va_iast hx hb hK hP hD hS 1 0 rfl rfl (vp_in_nI (by omega) (by omega)) dLI_raiseTo_32 (fun H locs hP hD hS => ?_)
    have hP : va_P (dC, dI) vwCl ([zob a 4 [.ref qa], zar qa ka 12 (upd fo (nI i).toNatClampNeg y7), zob b 4 [.ref qb], zar qb kb 12 fb] ++ T) H := hP
    have hD : va_D A ([zob a 4 [.ref qa], zar qa ka 12 (upd fo (nI i).toNatClampNeg y7), zob b 4 [.ref qb], zar qb kb 12 fb] ++ T) := hD
    obtain ⟨w8, e_w⟩ : ∃ f9 : Nat → Int32, f9 = upd fo (nI i).toNatClampNeg y7 := ⟨_, rfl⟩
    rw [← e_w] at hP hD
    have hP : va_P (dC, dI) vwCl ([zob a 4 [.ref qa], zar qa ka 12 w8, zob b 4 [.ref qb], zar qb kb 12 fb] ++ T) H := hP
    have hD : va_D A ([zob a 4 [.ref qa], zar qa ka 12 w8, zob b 4 [.ref qb], zar qb kb 12 fb] ++ T) := hD
    refine lv_iinc (k := 0) (v := nI (i + 1)) hx hb dLI_raiseTo_33 hl rfl (by rw [show Int32.ofInt 1 = nI 1 from by decide]; exact nI_add _ _) (Nat.le_of_ble_eq_true rfl) rfl (fun ls hl => ?_)
    have hl : lv_has ls 5 [(4, .int (nI (i + 1))), (3, .int (nI e0)), (2, .int (nI i0)), (1, .ref b), (0, .ref a)] := hl
    refine lv_goto (tgt := 3) hx hb dLI_raiseTo_36 rfl ?_
    exact ih w8 ls H locs ⟨lv_sub hl [0, 1, 2, 3, 4] rfl, hP, hD, hS⟩
