set_option maxHeartbeats 4000000 in
set_option maxRecDepth 100000 in
theorem f_MD_empties (l : Launch) (dC : Nat → ClassId) (dI : Nat → Nat → Nat) (h0 : Nat) (b0 : Nat) (b1 : Nat) (b2 : Nat) (b3 : Nat) (b4 : Nat) (b5 : Nat) (b6 : Nat) (b7 : Nat) (b8 : Nat) (b9 : Nat) (b10 : Nat) (b11 : Nat) (b12 : Nat) (b13 : Nat) (b14 : Nat) (b15 : Nat) (b16 : Nat) (b17 : Nat) (kb0 : ClassId) (kb1 : ClassId) (kb2 : ClassId) (kb3 : ClassId) (kb4 : ClassId) (kb5 : ClassId) (kb6 : ClassId) (kb7 : ClassId) (kb8 : ClassId) (kb9 : ClassId) (kb10 : ClassId) (kb11 : ClassId) (mg : Nat) (n : Nat) (rg : Nat) (rn : Nat) (ro : Nat) (sp : Nat) (gp : Nat) (fx : Nat) (mm : Nat → Nat → Nat) (hm : ∀ a k, mm a k ≤ 1000) (hn : n ≤ 40) (hg : 1 ≤ mg ∧ mg ≤ 8 ∧ rg ≤ 8 ∧ rn ≤ 1000 ∧ ro ≤ 1000) (hG : ∀ k, k < n → mm 6 k < 8) (hE : ∀ k, k < n → mm 3 k ≤ zEn mm (mm 6 k) n) : zp_M l yMD_empties wMD_empties ({ frames := 2, cells := 0, slots := 0, locals := 44 }) [.ref h0] (dC, dI) vwCl [zob h0 6 [.int (nI mg), .ref b0, .ref b1, .int (nI n), .ref b2, .ref b3, .ref b4, .ref b5, .ref b6, .ref b7, .ref b8, .ref b9, .ref b10, .ref b11, .int (nI rg - nI 1), .int (nI rn), .int (nI ro), .int (nI sp), .int (nI gp), .int (nI fx), .ref b12, .ref b13, .ref b14, .ref b15, .ref b16, .ref b17], zar b0 kb0 8 (fun j => nI (mm 0 j)), zar b1 kb1 8 (fun j => nI (mm 1 j)), zar b2 kb2 40 (fun j => nI (mm 2 j)), zar b3 kb3 40 (fun j => nI (mm 3 j)), zar b4 kb4 40 (fun j => nI (mm 4 j)), zar b5 kb5 40 (fun j => nI (mm 5 j)), zar b6 kb6 40 (fun j => nI (mm 6 j)), zar b7 kb7 40 (fun j => nI (mm 7 j)), zar b8 kb8 40 (fun j => nI (mm 8 j)), zar b9 kb9 40 (fun j => nI (mm 9 j)), zar b10 kb10 40 (fun j => nI (mm 10 j)), zar b11 kb11 40 (fun j => nI (mm 11 j))] [(kb0, .int), (kb1, .int), (kb2, .int), (kb3, .int), (kb4, .int), (kb5, .int), (kb6, .int), (kb7, .int), (kb8, .int), (kb9, .int), (kb10, .int), (kb11, .int)] (fun _ => True) (fun r => r = nI (zCn (zPe (zCo mm n) n (mm 2)) 12 + 100 * zCn (zPe (zEn mm (mg - 1) n) n (mm 3)) 12)) := by
  refine zp_head (cc := cMD_empties) (maxL := 6) (ret := (some .int)) (by decide +kernel) rfl (Nat.le_of_ble_eq_true rfl) ?_
  intro p e s m below meth c ls F hP hK hX hl
  obtain ⟨hx, hb, hml, hr, hlocks, hown, hts⟩ := F
  have hown : s.vm.findClass "SpannedCellsModel" = some m.cls := hown
  have hz : ∀ w9 ∈ zT, w9.before [.ref h0].toArray s = true := fun w9 h => hts w9 (List.mem_cons_of_mem _ h)
  have hl : lv_has ls 6 [(0, .ref h0)] := hl
  refine z_q (fun Q hQ => ?_)
  refine lv_iconst (v := nI 0) hx hb dMD_empties_0 (by decide) ?_
  refine lv_istore_n hx hb dMD_empties_1 rfl hl (Nat.le_of_ble_eq_true rfl) rfl (fun ls hl => ?_)
  have hl : lv_has ls 6 [(1, .int (nI 0)), (0, .ref h0)] := hl
  refine lv_iconst (v := nI 0) hx hb dMD_empties_2 (by decide) ?_
  refine lv_istore_n hx hb dMD_empties_3 rfl hl (Nat.le_of_ble_eq_true rfl) rfl (fun ls hl => ?_)
  have hl : lv_has ls 6 [(2, .int (nI 0)), (1, .int (nI 0)), (0, .ref h0)] := hl
  refine zl_up (σ := Unit) 12 (fun i x9 ls => lv_has ls 6 [(2, .int (nI i)), (1, .int (nI (zCn (zPe (zCo mm n) n (mm 2)) i + 100 * zCn (zPe (zEn mm (mg - 1) n) n (mm 3)) i))), (0, .ref h0)]) ?_ ?_ 0 (by decide) () ls (lv_sub hl [0, 1, 2] rfl)
  · intro x9 ls hI
    have hl := hI
    have hl : lv_has ls 6 [(2, .int (nI 12)), (1, .int (nI (zCn (zPe (zCo mm n) n (mm 2)) 12 + 100 * zCn (zPe (zEn mm (mg - 1) n) n (mm 3)) 12))), (0, .ref h0)] := hl
    refine lv_iload_n hx hb dMD_empties_4 rfl (lv_at hl 0 rfl) ?_
    refine lv_bipush (v := nI 12) hx hb dMD_empties_5 (by decide) ?_
    refine lv_icmp_ge (tgt := 131) hx hb dMD_empties_7 rfl (fun _ => ?_) (fun h => absurd (by decide) h)
    refine lv_iload_n hx hb dMD_empties_131 rfl (lv_at hl 1 rfl) ?_
    subst hQ
    exact zp_iret hx hb hr hlocks (rfl) dMD_empties_132
  · intro i hi ih
    intro x9 ls hI
    have hl := hI
    have hl : lv_has ls 6 [(2, .int (nI i)), (1, .int (nI (zCn (zPe (zCo mm n) n (mm 2)) i + 100 * zCn (zPe (zEn mm (mg - 1) n) n (mm 3)) i))), (0, .ref h0)] := hl
    refine lv_iload_n hx hb dMD_empties_4 rfl (lv_at hl 0 rfl) ?_
    refine lv_bipush (v := nI 12) hx hb dMD_empties_5 (by decide) ?_
    have t1 := nI_toInt (n := i) (by omega)
    have t2 := nI_toInt (n := 12) (by omega)
    refine lv_icmp_ge (tgt := 131) hx hb dMD_empties_7 rfl (fun h => by have h := z_le h; omega) (fun _ => ?_)
    refine z_join (fun v1 : Int32 => z_yn v1 (i < zCo mm n)) (fun v1 => W p l e ({ frames := 2, cells := 0, slots := 0, locals := 44 }) s m [.ref h0].toArray below meth c s.heap [] 0 0 Q (F0 m 23 ls (.int v1 :: []))) (fun v1 hv1 => ?_) (fun J23 => ?_)
    · refine lv_istore_n hx hb dMD_empties_23 rfl hl (Nat.le_of_ble_eq_true rfl) rfl (fun ls hl => ?_)
      have hl : lv_has ls 6 [(3, .int v1), (2, .int (nI i)), (1, .int (nI (zCn (zPe (zCo mm n) n (mm 2)) i + 100 * zCn (zPe (zEn mm (mg - 1) n) n (mm 3)) i))), (0, .ref h0)] := hl
      refine z_join (fun v2 : Int32 => z_yn v2 (i < zEn mm (mg - 1) n)) (fun v2 => W p l e ({ frames := 2, cells := 0, slots := 0, locals := 44 }) s m [.ref h0].toArray below meth c s.heap [] 0 0 Q (F0 m 37 ls (.int v2 :: []))) (fun v2 hv2 => ?_) (fun J37 => ?_)
      · refine lv_istore hx hb dMD_empties_37 hl (Nat.le_of_ble_eq_true rfl) rfl (fun ls hl => ?_)
        have hl : lv_has ls 6 [(4, .int v2), (3, .int v1), (2, .int (nI i)), (1, .int (nI (zCn (zPe (zCo mm n) n (mm 2)) i + 100 * zCn (zPe (zEn mm (mg - 1) n) n (mm 3)) i))), (0, .ref h0)] := hl
        refine lv_iconst (v := nI 0) hx hb dMD_empties_39 (by decide) ?_
        refine lv_istore hx hb dMD_empties_40 hl (Nat.le_of_ble_eq_true rfl) rfl (fun ls hl => ?_)
        have hl : lv_has ls 6 [(5, .int (nI 0)), (4, .int v2), (3, .int v1), (2, .int (nI i)), (1, .int (nI (zCn (zPe (zCo mm n) n (mm 2)) i + 100 * zCn (zPe (zEn mm (mg - 1) n) n (mm 3)) i))), (0, .ref h0)] := hl
        refine zl_up (σ := (Int32) × (Int32)) n (fun j x9 ls => match x9 with | (lf, tp) => lv_has ls 6 [(5, .int (nI j)), (4, .int tp), (3, .int lf), (2, .int (nI i)), (1, .int (nI (zCn (zPe (zCo mm n) n (mm 2)) i + 100 * zCn (zPe (zEn mm (mg - 1) n) n (mm 3)) i))), (0, .ref h0)] ∧ (z_yn lf (zPe (zCo mm n) j (mm 2) i) ∧ z_yn tp (zPe (zEn mm (mg - 1) n) j (mm 3) i))) ?_ ?_ 0 (Nat.zero_le _) (v1, v2) ls ⟨lv_sub hl [0, 1, 2, 3, 4, 5] rfl, z_ynI hv1 zPe_0, z_ynI hv2 zPe_0⟩
        · intro x9 ls hI
          obtain ⟨lf, tp⟩ := x9
          obtain ⟨hl, hxl, hxt⟩ := hI
          have hl : lv_has ls 6 [(5, .int (nI n)), (4, .int tp), (3, .int lf), (2, .int (nI i)), (1, .int (nI (zCn (zPe (zCo mm n) n (mm 2)) i + 100 * zCn (zPe (zEn mm (mg - 1) n) n (mm 3)) i))), (0, .ref h0)] := hl
          refine lv_iload hx hb dMD_empties_42 (lv_at hl 0 rfl) ?_
          refine lv_aload_n hx hb dMD_empties_44 rfl (lv_at hl 5 rfl) ?_
          refine va_get (D := (dC, dI)) (ci := 6) (v := .int (nI n)) (C := RMD) (T := TMD) (N := 26) hx hb hz in_MD hown hK hP 0 rfl rfl 3 (by decide) (hz _ wd_587) (fun _ h9 => h9) rfl dMD_empties_45 ?_
          have t3 := nI_toInt (n := n) (by omega)
          have t4 := nI_toInt (n := n) (by omega)
          refine lv_icmp_ge (tgt := 101) hx hb dMD_empties_48 rfl (fun _ => ?_) (fun h => by have h := z_nle h; omega)
          refine lv_iload_n hx hb dMD_empties_101 rfl (lv_at hl 4 rfl) ?_
          refine lv_iload_n hx hb dMD_empties_102 rfl (lv_at hl 2 rfl) ?_
          refine lv_if_eq (tgt := 110) hx hb dMD_empties_103 rfl (fun h_l => ?_) (fun h_l => ?_)
          · have h_l := z_yF hxl h_l
            refine lv_iconst (v := nI 0) hx hb dMD_empties_110 (by decide) ?_
            refine lv_iadd hx hb dMD_empties_111 ?_
            refine lv_topi (fun x6 e7 => ?_)
            have e7 : x6 = nI (zCn (zPe (zCo mm n) n (mm 2)) (i + 1) + 100 * zCn (zPe (zEn mm (mg - 1) n) n (mm 3)) i) := e7.trans (by rw [zCn_F (P := zPe (zCo mm n) n (mm 2)) h_l]; exact nI_add _ 0)
            subst e7
            refine lv_iload hx hb dMD_empties_112 (lv_at hl 1 rfl) ?_
            refine lv_if_eq (tgt := 122) hx hb dMD_empties_114 rfl (fun h_r => ?_) (fun h_r => ?_)
            · have h_r := z_yF hxt h_r
              refine lv_iconst (v := nI 0) hx hb dMD_empties_122 (by decide) ?_
              refine lv_iadd hx hb dMD_empties_123 ?_
              refine lv_topi (fun x9 e10 => ?_)
              have e10 : x9 = nI (zCn (zPe (zCo mm n) n (mm 2)) (i + 1) + 100 * zCn (zPe (zEn mm (mg - 1) n) n (mm 3)) (i + 1)) := e10.trans (by rw [zCn_F (P := zPe (zEn mm (mg - 1) n) n (mm 3)) h_r]; exact nI_add _ 0)
              subst e10
              refine lv_istore_n hx hb dMD_empties_124 rfl hl (Nat.le_of_ble_eq_true rfl) rfl (fun ls hl => ?_)
              have hl : lv_has ls 6 [(1, .int (nI (zCn (zPe (zCo mm n) n (mm 2)) (i + 1) + 100 * zCn (zPe (zEn mm (mg - 1) n) n (mm 3)) (i + 1)))), (5, .int (nI n)), (4, .int tp), (3, .int lf), (2, .int (nI i)), (0, .ref h0)] := hl
              refine lv_iinc (k := 4) (v := nI (i + 1)) hx hb dMD_empties_125 hl rfl (by rw [show Int32.ofInt 1 = nI 1 from by decide]; exact nI_add _ _) (Nat.le_of_ble_eq_true rfl) rfl (fun ls hl => ?_)
              have hl : lv_has ls 6 [(2, .int (nI (i + 1))), (1, .int (nI (zCn (zPe (zCo mm n) n (mm 2)) (i + 1) + 100 * zCn (zPe (zEn mm (mg - 1) n) n (mm 3)) (i + 1)))), (5, .int (nI n)), (4, .int tp), (3, .int lf), (0, .ref h0)] := hl
              refine lv_goto (tgt := 4) hx hb dMD_empties_128 rfl ?_
              exact ih () ls (lv_sub hl [0, 1, 5] rfl)
            · have h_r := z_yT hxt h_r
              refine lv_bipush (v := nI 100) hx hb dMD_empties_117 (by decide) ?_
              refine lv_goto (tgt := 123) hx hb dMD_empties_119 rfl ?_
              refine lv_iadd hx hb dMD_empties_123 ?_
              refine lv_topi (fun x11 e12 => ?_)
              have e12 : x11 = nI (zCn (zPe (zCo mm n) n (mm 2)) (i + 1) + 100 * zCn (zPe (zEn mm (mg - 1) n) n (mm 3)) (i + 1)) := e12.trans (by rw [zCn_T (P := zPe (zEn mm (mg - 1) n) n (mm 3)) h_r]; exact (nI_add _ 100).trans (congrArg nI (by omega)))
              subst e12
              refine lv_istore_n hx hb dMD_empties_124 rfl hl (Nat.le_of_ble_eq_true rfl) rfl (fun ls hl => ?_)
              have hl : lv_has ls 6 [(1, .int (nI (zCn (zPe (zCo mm n) n (mm 2)) (i + 1) + 100 * zCn (zPe (zEn mm (mg - 1) n) n (mm 3)) (i + 1)))), (5, .int (nI n)), (4, .int tp), (3, .int lf), (2, .int (nI i)), (0, .ref h0)] := hl
              refine lv_iinc (k := 4) (v := nI (i + 1)) hx hb dMD_empties_125 hl rfl (by rw [show Int32.ofInt 1 = nI 1 from by decide]; exact nI_add _ _) (Nat.le_of_ble_eq_true rfl) rfl (fun ls hl => ?_)
              have hl : lv_has ls 6 [(2, .int (nI (i + 1))), (1, .int (nI (zCn (zPe (zCo mm n) n (mm 2)) (i + 1) + 100 * zCn (zPe (zEn mm (mg - 1) n) n (mm 3)) (i + 1)))), (5, .int (nI n)), (4, .int tp), (3, .int lf), (0, .ref h0)] := hl
              refine lv_goto (tgt := 4) hx hb dMD_empties_128 rfl ?_
              exact ih () ls (lv_sub hl [0, 1, 5] rfl)
          · have h_l := z_yT hxl h_l
            refine lv_iconst (v := nI 1) hx hb dMD_empties_106 (by decide) ?_
            refine lv_goto (tgt := 111) hx hb dMD_empties_107 rfl ?_
            refine lv_iadd hx hb dMD_empties_111 ?_
            refine lv_topi (fun x13 e14 => ?_)
            have e14 : x13 = nI (zCn (zPe (zCo mm n) n (mm 2)) (i + 1) + 100 * zCn (zPe (zEn mm (mg - 1) n) n (mm 3)) i) := e14.trans (by rw [zCn_T (P := zPe (zCo mm n) n (mm 2)) h_l]; exact (nI_add _ 1).trans (congrArg nI (by omega)))
            subst e14
            refine lv_iload hx hb dMD_empties_112 (lv_at hl 1 rfl) ?_
            refine lv_if_eq (tgt := 122) hx hb dMD_empties_114 rfl (fun h_r => ?_) (fun h_r => ?_)
            · have h_r := z_yF hxt h_r
              refine lv_iconst (v := nI 0) hx hb dMD_empties_122 (by decide) ?_
              refine lv_iadd hx hb dMD_empties_123 ?_
              refine lv_topi (fun x16 e17 => ?_)
              have e17 : x16 = nI (zCn (zPe (zCo mm n) n (mm 2)) (i + 1) + 100 * zCn (zPe (zEn mm (mg - 1) n) n (mm 3)) (i + 1)) := e17.trans (by rw [zCn_F (P := zPe (zEn mm (mg - 1) n) n (mm 3)) h_r]; exact nI_add _ 0)
              subst e17
              refine lv_istore_n hx hb dMD_empties_124 rfl hl (Nat.le_of_ble_eq_true rfl) rfl (fun ls hl => ?_)
              have hl : lv_has ls 6 [(1, .int (nI (zCn (zPe (zCo mm n) n (mm 2)) (i + 1) + 100 * zCn (zPe (zEn mm (mg - 1) n) n (mm 3)) (i + 1)))), (5, .int (nI n)), (4, .int tp), (3, .int lf), (2, .int (nI i)), (0, .ref h0)] := hl
              refine lv_iinc (k := 4) (v := nI (i + 1)) hx hb dMD_empties_125 hl rfl (by rw [show Int32.ofInt 1 = nI 1 from by decide]; exact nI_add _ _) (Nat.le_of_ble_eq_true rfl) rfl (fun ls hl => ?_)
              have hl : lv_has ls 6 [(2, .int (nI (i + 1))), (1, .int (nI (zCn (zPe (zCo mm n) n (mm 2)) (i + 1) + 100 * zCn (zPe (zEn mm (mg - 1) n) n (mm 3)) (i + 1)))), (5, .int (nI n)), (4, .int tp), (3, .int lf), (0, .ref h0)] := hl
              refine lv_goto (tgt := 4) hx hb dMD_empties_128 rfl ?_
              exact ih () ls (lv_sub hl [0, 1, 5] rfl)
            · have h_r := z_yT hxt h_r
              refine lv_bipush (v := nI 100) hx hb dMD_empties_117 (by decide) ?_
              refine lv_goto (tgt := 123) hx hb dMD_empties_119 rfl ?_
              refine lv_iadd hx hb dMD_empties_123 ?_
              refine lv_topi (fun x18 e19 => ?_)
              have e19 : x18 = nI (zCn (zPe (zCo mm n) n (mm 2)) (i + 1) + 100 * zCn (zPe (zEn mm (mg - 1) n) n (mm 3)) (i + 1)) := e19.trans (by rw [zCn_T (P := zPe (zEn mm (mg - 1) n) n (mm 3)) h_r]; exact (nI_add _ 100).trans (congrArg nI (by omega)))
              subst e19
              refine lv_istore_n hx hb dMD_empties_124 rfl hl (Nat.le_of_ble_eq_true rfl) rfl (fun ls hl => ?_)
              have hl : lv_has ls 6 [(1, .int (nI (zCn (zPe (zCo mm n) n (mm 2)) (i + 1) + 100 * zCn (zPe (zEn mm (mg - 1) n) n (mm 3)) (i + 1)))), (5, .int (nI n)), (4, .int tp), (3, .int lf), (2, .int (nI i)), (0, .ref h0)] := hl
              refine lv_iinc (k := 4) (v := nI (i + 1)) hx hb dMD_empties_125 hl rfl (by rw [show Int32.ofInt 1 = nI 1 from by decide]; exact nI_add _ _) (Nat.le_of_ble_eq_true rfl) rfl (fun ls hl => ?_)
              have hl : lv_has ls 6 [(2, .int (nI (i + 1))), (1, .int (nI (zCn (zPe (zCo mm n) n (mm 2)) (i + 1) + 100 * zCn (zPe (zEn mm (mg - 1) n) n (mm 3)) (i + 1)))), (5, .int (nI n)), (4, .int tp), (3, .int lf), (0, .ref h0)] := hl
              refine lv_goto (tgt := 4) hx hb dMD_empties_128 rfl ?_
              exact ih () ls (lv_sub hl [0, 1, 5] rfl)
        · intro j hj jh
          intro x9 ls hI
          obtain ⟨lf, tp⟩ := x9
          obtain ⟨hl, hxl, hxt⟩ := hI
          have hl : lv_has ls 6 [(5, .int (nI j)), (4, .int tp), (3, .int lf), (2, .int (nI i)), (1, .int (nI (zCn (zPe (zCo mm n) n (mm 2)) i + 100 * zCn (zPe (zEn mm (mg - 1) n) n (mm 3)) i))), (0, .ref h0)] := hl
          refine lv_iload hx hb dMD_empties_42 (lv_at hl 0 rfl) ?_
          refine lv_aload_n hx hb dMD_empties_44 rfl (lv_at hl 5 rfl) ?_
          refine va_get (D := (dC, dI)) (ci := 6) (v := .int (nI n)) (C := RMD) (T := TMD) (N := 26) hx hb hz in_MD hown hK hP 0 rfl rfl 3 (by decide) (hz _ wd_587) (fun _ h9 => h9) rfl dMD_empties_45 ?_
          have t20 := nI_toInt (n := j) (by omega)
          have t21 := nI_toInt (n := n) (by omega)
          refine lv_icmp_ge (tgt := 101) hx hb dMD_empties_48 rfl (fun h => by have h := z_le h; omega) (fun _ => ?_)
          refine z_join (fun v3 : Int32 => z_yn v3 (zPe (zCo mm n) (j + 1) (mm 2) i)) (fun v3 => W p l e ({ frames := 2, cells := 0, slots := 0, locals := 44 }) s m [.ref h0].toArray below meth c s.heap [] 0 0 Q (F0 m 71 ls (.int v3 :: []))) (fun v3 hv3 => ?_) (fun J71 => ?_)
          · refine lv_istore_n hx hb dMD_empties_71 rfl hl (Nat.le_of_ble_eq_true rfl) rfl (fun ls hl => ?_)
            have hl : lv_has ls 6 [(3, .int v3), (5, .int (nI j)), (4, .int tp), (2, .int (nI i)), (1, .int (nI (zCn (zPe (zCo mm n) n (mm 2)) i + 100 * zCn (zPe (zEn mm (mg - 1) n) n (mm 3)) i))), (0, .ref h0)] := hl
            refine z_join (fun v4 : Int32 => z_yn v4 (zPe (zEn mm (mg - 1) n) (j + 1) (mm 3) i)) (fun v4 => W p l e ({ frames := 2, cells := 0, slots := 0, locals := 44 }) s m [.ref h0].toArray below meth c s.heap [] 0 0 Q (F0 m 93 ls (.int v4 :: []))) (fun v4 hv4 => ?_) (fun J93 => ?_)
            · refine lv_istore hx hb dMD_empties_93 hl (Nat.le_of_ble_eq_true rfl) rfl (fun ls hl => ?_)
              have hl : lv_has ls 6 [(4, .int v4), (3, .int v3), (5, .int (nI j)), (2, .int (nI i)), (1, .int (nI (zCn (zPe (zCo mm n) n (mm 2)) i + 100 * zCn (zPe (zEn mm (mg - 1) n) n (mm 3)) i))), (0, .ref h0)] := hl
              refine lv_iinc (k := 2) (v := nI (j + 1)) hx hb dMD_empties_95 hl rfl (by rw [show Int32.ofInt 1 = nI 1 from by decide]; exact nI_add _ _) (Nat.le_of_ble_eq_true rfl) rfl (fun ls hl => ?_)
              have hl : lv_has ls 6 [(5, .int (nI (j + 1))), (4, .int v4), (3, .int v3), (2, .int (nI i)), (1, .int (nI (zCn (zPe (zCo mm n) n (mm 2)) i + 100 * zCn (zPe (zEn mm (mg - 1) n) n (mm 3)) i))), (0, .ref h0)] := hl
              refine lv_goto (tgt := 42) hx hb dMD_empties_98 rfl ?_
              exact jh (v3, v4) ls ⟨lv_sub hl [0, 1, 2, 3, 4, 5] rfl, hv3, hv4⟩
            · refine lv_iload hx hb dMD_empties_72 (lv_at hl 2 rfl) ?_
              refine lv_if_eq (tgt := 92) hx hb dMD_empties_74 rfl (fun h_r => ?_) (fun h_r => ?_)
              · have h_r := z_yF hxt h_r
                refine lv_iconst (v := nI 0) hx hb dMD_empties_92 (by decide) ?_
                exact J93 _ (z_y0 (zPe_F h_r))
              · have h_r := z_yT hxt h_r
                refine lv_aload_n hx hb dMD_empties_77 rfl (lv_at hl 5 rfl) ?_
                refine va_get (D := (dC, dI)) (ci := 6) (v := .ref b3) (C := RMD) (T := TMD) (N := 26) hx hb hz in_MD hown hK hP 0 rfl rfl 5 (by decide) (hz _ wd_589) (fun _ h9 => h9) rfl dMD_empties_78 ?_
                refine lv_iload hx hb dMD_empties_81 (lv_at hl 1 rfl) ?_
                refine va_iald hx hb hK hP 4 3 rfl rfl (vp_in_nI (by omega) (by omega)) dMD_empties_83 ?_
                refine lv_topi (fun x23 e24 => ?_)
                have e24 : x23 = nI (mm 3 j) := e24.trans (by show nI (mm 3 (nI j).toNatClampNeg) = _; rw [nI_clamp (by omega)])
                subst e24
                refine lv_iload_n hx hb dMD_empties_84 rfl (lv_at hl 3 rfl) ?_
                have t25 := hm 3 j
                have t26 := nI_toInt (n := mm 3 j) (by omega)
                have t27 := nI_toInt (n := i) (by omega)
                refine lv_icmp_eq (tgt := 92) hx hb dMD_empties_85 rfl (fun h28 => ?_) (fun h28 => ?_)
                · have h28 := z_eq h28
                  refine lv_iconst (v := nI 0) hx hb dMD_empties_92 (by decide) ?_
                  exact J93 _ (z_y0 (zPe_E (by omega)))
                · have h28 := z_ne h28
                  refine lv_iconst (v := nI 1) hx hb dMD_empties_88 (by decide) ?_
                  refine lv_goto (tgt := 93) hx hb dMD_empties_89 rfl ?_
                  exact J93 _ (z_y1 (zPe_1 h_r (by omega)))
          · refine lv_iload_n hx hb dMD_empties_51 rfl (lv_at hl 2 rfl) ?_
            refine lv_if_eq (tgt := 70) hx hb dMD_empties_52 rfl (fun h_l => ?_) (fun h_l => ?_)
            · have h_l := z_yF hxl h_l
              refine lv_iconst (v := nI 0) hx hb dMD_empties_70 (by decide) ?_
              exact J71 _ (z_y0 (zPe_F h_l))
            · have h_l := z_yT hxl h_l
              refine lv_aload_n hx hb dMD_empties_55 rfl (lv_at hl 5 rfl) ?_
              refine va_get (D := (dC, dI)) (ci := 6) (v := .ref b2) (C := RMD) (T := TMD) (N := 26) hx hb hz in_MD hown hK hP 0 rfl rfl 4 (by decide) (hz _ wd_588) (fun _ h9 => h9) rfl dMD_empties_56 ?_
              refine lv_iload hx hb dMD_empties_59 (lv_at hl 0 rfl) ?_
              refine va_iald hx hb hK hP 3 2 rfl rfl (vp_in_nI (by omega) (by omega)) dMD_empties_61 ?_
              refine lv_topi (fun x30 e31 => ?_)
              have e31 : x30 = nI (mm 2 j) := e31.trans (by show nI (mm 2 (nI j).toNatClampNeg) = _; rw [nI_clamp (by omega)])
              subst e31
              refine lv_iload_n hx hb dMD_empties_62 rfl (lv_at hl 3 rfl) ?_
              have t32 := hm 2 j
              have t33 := nI_toInt (n := mm 2 j) (by omega)
              have t34 := nI_toInt (n := i) (by omega)
              refine lv_icmp_eq (tgt := 70) hx hb dMD_empties_63 rfl (fun h35 => ?_) (fun h35 => ?_)
              · have h35 := z_eq h35
                refine lv_iconst (v := nI 0) hx hb dMD_empties_70 (by decide) ?_
                exact J71 _ (z_y0 (zPe_E (by omega)))
              · have h35 := z_ne h35
                refine lv_iconst (v := nI 1) hx hb dMD_empties_66 (by decide) ?_
                refine lv_goto (tgt := 71) hx hb dMD_empties_67 rfl ?_
                exact J71 _ (z_y1 (zPe_1 h_l (by omega)))
      · refine lv_iload_n hx hb dMD_empties_24 rfl (lv_at hl 1 rfl) ?_
        refine lv_aload_n hx hb dMD_empties_25 rfl (lv_at hl 3 rfl) ?_
        refine vp_callSi (W.runV (As := []) (rest := [.int (nI i)]) ⟨hx, hb, hml, hown, hz⟩ (f_MD_rows l dC dI h0 b0 b1 b2 b3 b4 b5 b6 b7 b8 b9 b10 b11 b12 b13 b14 b15 b16 b17 kb0 kb1 kb2 kb3 kb4 kb5 kb6 kb7 kb8 kb9 kb10 kb11 mg n _ rn ro sp gp fx _ (hm) (by omega) (hg) (hG) (hE)) (cwV 0 hz (z_gV wd_733 wd_705 wd_706 wd_37 wd_707) rfl rfl rfl (by decide +kernel) ⟨Nat.le_of_ble_eq_true rfl, Nat.le_of_ble_eq_true rfl⟩) (zr_preV hK (hP.sub [0, 1, 2, 3, 4, 5, 6, 7, 8, 9, 10, 11, 12] rfl) (va_recv (q0 := 0) hK hP (q := (RMD, TMD, 26)) rfl rfl) [0, 1, 2, 3, 4, 5, 6, 7, 8, 9, 10, 11] rfl z_true (fun _ _ _ => trivial)) rfl rfl hl.1 rfl (lv_room (Nat.le_of_ble_eq_true rfl)) dMD_empties_26 ⟨Nat.le_of_ble_eq_true rfl, Nat.le_of_ble_eq_true rfl⟩) (fun r36 h_r36 => ?_)
        have h_r36 : r36 = nI (zEn mm (mg - 1) n) := h_r36
        subst h_r36
        have t37 := nI_toInt (n := i) (by omega)
        have t38 := zEn_le hm (mg - 1) n
        have t39 := nI_toInt (n := zEn mm (mg - 1) n) (by omega)
        refine lv_icmp_ge (tgt := 36) hx hb dMD_empties_29 rfl (fun h40 => ?_) (fun h40 => ?_)
        · have h40 := z_le h40
          refine lv_iconst (v := nI 0) hx hb dMD_empties_36 (by decide) ?_
          exact J37 _ (z_y0 (by omega))
        · have h40 := z_nle h40
          refine lv_iconst (v := nI 1) hx hb dMD_empties_32 (by decide) ?_
          refine lv_goto (tgt := 37) hx hb dMD_empties_33 rfl ?_
          exact J37 _ (z_y1 (by omega))
    · refine lv_iload_n hx hb dMD_empties_10 rfl (lv_at hl 0 rfl) ?_
      refine lv_aload_n hx hb dMD_empties_11 rfl (lv_at hl 2 rfl) ?_
      refine vp_callSi (W.runV (As := []) (rest := [.int (nI i)]) ⟨hx, hb, hml, hown, hz⟩ (f_MD_columns l dC dI h0 b0 b1 b2 b3 b4 b5 b6 b7 b8 b9 b10 b11 b12 b13 b14 b15 b16 b17 kb0 kb1 kb2 kb3 kb4 kb5 kb6 kb7 kb8 kb9 kb10 kb11 mg n _ rn ro sp gp fx _ (hm) (by omega) (hg) (hG) (hE)) (cwV 0 hz (z_gV wd_732 wd_701 wd_702 wd_37 wd_703) rfl rfl rfl (by decide +kernel) ⟨Nat.le_of_ble_eq_true rfl, Nat.le_of_ble_eq_true rfl⟩) (zr_preV hK (hP.sub [0, 1, 2, 3, 4, 5, 6, 7, 8, 9, 10, 11, 12] rfl) (va_recv (q0 := 0) hK hP (q := (RMD, TMD, 26)) rfl rfl) [0, 1, 2, 3, 4, 5, 6, 7, 8, 9, 10, 11] rfl z_true (fun _ _ _ => trivial)) rfl rfl hl.1 rfl (lv_room (Nat.le_of_ble_eq_true rfl)) dMD_empties_12 ⟨Nat.le_of_ble_eq_true rfl, Nat.le_of_ble_eq_true rfl⟩) (fun r41 h_r41 => ?_)
      have h_r41 : r41 = nI (zCo mm n) := h_r41
      subst h_r41
      have t42 := nI_toInt (n := i) (by omega)
      have t43 := zCo_le hm n
      have t44 := nI_toInt (n := zCo mm n) (by omega)
      refine lv_icmp_ge (tgt := 22) hx hb dMD_empties_15 rfl (fun h45 => ?_) (fun h45 => ?_)
      · have h45 := z_le h45
        refine lv_iconst (v := nI 0) hx hb dMD_empties_22 (by decide) ?_
        exact J23 _ (z_y0 (by omega))
      · have h45 := z_nle h45
        refine lv_iconst (v := nI 1) hx hb dMD_empties_18 (by decide) ?_
        refine lv_goto (tgt := 23) hx hb dMD_empties_19 rfl ?_
        exact J23 _ (z_y1 (by omega))

set_option maxHeartbeats 4000000 in
set_option maxRecDepth 100000 in
theorem f_MD_span (l : Launch) (dC : Nat → ClassId) (dI : Nat → Nat → Nat) (h0 : Nat) (b0 : Nat) (b1 : Nat) (b2 : Nat) (b3 : Nat) (b4 : Nat) (b5 : Nat) (b6 : Nat) (b7 : Nat) (b8 : Nat) (b9 : Nat) (b10 : Nat) (b11 : Nat) (b12 : Nat) (b13 : Nat) (b14 : Nat) (b15 : Nat) (b16 : Nat) (b17 : Nat) (kb0 : ClassId) (kb1 : ClassId) (kb2 : ClassId) (kb3 : ClassId) (kb4 : ClassId) (kb5 : ClassId) (kb6 : ClassId) (kb7 : ClassId) (kb8 : ClassId) (kb9 : ClassId) (kb10 : ClassId) (kb11 : ClassId) (mg : Nat) (n : Nat) (rg : Nat) (rn : Nat) (ro : Nat) (sp : Nat) (gp : Nat) (fx : Nat) (mm : Nat → Nat → Nat) (k : Int32) (hm : ∀ a k, mm a k ≤ 1000) (hn : n ≤ 40) (hg : 1 ≤ mg ∧ mg ≤ 8 ∧ rg ≤ 8 ∧ rn ≤ 1000 ∧ ro ≤ 1000) (hG : ∀ k, k < n → mm 6 k < 8) (hE : ∀ k, k < n → mm 3 k ≤ zEn mm (mm 6 k) n) : zp_M l yMD_span wMD_span ({ frames := 2, cells := 0, slots := 0, locals := 45 }) [.ref h0, .int k] (dC, dI) vwCl [zob h0 6 [.int (nI mg), .ref b0, .ref b1, .int (nI n), .ref b2, .ref b3, .ref b4, .ref b5, .ref b6, .ref b7, .ref b8, .ref b9, .ref b10, .ref b11, .int (nI rg - nI 1), .int (nI rn), .int (nI ro), .int (nI sp), .int (nI gp), .int (nI fx), .ref b12, .ref b13, .ref b14, .ref b15, .ref b16, .ref b17], zar b0 kb0 8 (fun j => nI (mm 0 j)), zar b1 kb1 8 (fun j => nI (mm 1 j)), zar b2 kb2 40 (fun j => nI (mm 2 j)), zar b3 kb3 40 (fun j => nI (mm 3 j)), zar b4 kb4 40 (fun j => nI (mm 4 j)), zar b5 kb5 40 (fun j => nI (mm 5 j)), zar b6 kb6 40 (fun j => nI (mm 6 j)), zar b7 kb7 40 (fun j => nI (mm 7 j)), zar b8 kb8 40 (fun j => nI (mm 8 j)), zar b9 kb9 40 (fun j => nI (mm 9 j)), zar b10 kb10 40 (fun j => nI (mm 10 j)), zar b11 kb11 40 (fun j => nI (mm 11 j))] [(kb0, .int), (kb1, .int), (kb2, .int), (kb3, .int), (kb4, .int), (kb5, .int), (kb6, .int), (kb7, .int), (kb8, .int), (kb9, .int), (kb10, .int), (kb11, .int)] (fun _ => True) (fun r => (¬ (0 ≤ k.toInt ∧ k.toInt < n) ∧ r = -1) ∨ ∃ k0, k0 < n ∧ k = nI k0 ∧ r = nI (((mm 2 k0 + 100 * mm 3 k0) + 10000 * mm 4 k0) + 1000000 * zDn mm n k0)) := by
  refine zp_head (cc := cMD_span) (maxL := 2) (ret := (some .int)) (by decide +kernel) rfl (Nat.le_of_ble_eq_true rfl) ?_
  intro p e s m below meth c ls F hP hK hX hl
  obtain ⟨hx, hb, hml, hr, hlocks, hown, hts⟩ := F
  have hown : s.vm.findClass "SpannedCellsModel" = some m.cls := hown
  have hz : ∀ w9 ∈ zT, w9.before [.ref h0, .int k].toArray s = true := fun w9 h => hts w9 (List.mem_cons_of_mem _ h)
  have hl : lv_has ls 2 [(0, .ref h0), (1, .int k)] := hl
  refine z_q (fun Q hQ => ?_)
  refine lv_aload_n hx hb dMD_span_0 rfl (lv_at hl 0 rfl) ?_
  refine lv_iload_n hx hb dMD_span_1 rfl (lv_at hl 1 rfl) ?_
  refine vp_callSi (W.runV (As := [.int k]) (rest := []) ⟨hx, hb, hml, hown, hz⟩ (f_MD_isCell l dC dI h0 b0 b1 b2 b3 b4 b5 b6 b7 b8 b9 b10 b11 b12 b13 b14 b15 b16 b17 kb0 kb1 kb2 kb3 kb4 kb5 kb6 kb7 kb8 kb9 kb10 kb11 mg n _ rn ro sp gp fx _ k (hm) (by omega) (hg) (hG) (hE)) (cwV 1 hz (z_gV wd_688 wd_690 wd_15 wd_37 wd_691) rfl rfl rfl (by decide +kernel) ⟨Nat.le_of_ble_eq_true rfl, Nat.le_of_ble_eq_true rfl⟩) (zr_preV hK (hP.sub [0, 1, 2, 3, 4, 5, 6, 7, 8, 9, 10, 11, 12] rfl) (va_recv (q0 := 0) hK hP (q := (RMD, TMD, 26)) rfl rfl) [0, 1, 2, 3, 4, 5, 6, 7, 8, 9, 10, 11] rfl z_true (fun _ _ _ => trivial)) rfl rfl hl.1 rfl (lv_room (Nat.le_of_ble_eq_true rfl)) dMD_span_2 ⟨Nat.le_of_ble_eq_true rfl, Nat.le_of_ble_eq_true rfl⟩) (fun ra h_ra => ?_)
  have h_ra : z_yn ra (0 ≤ k.toInt ∧ k.toInt < n) := h_ra
  refine lv_if_eq (tgt := 47) hx hb dMD_span_5 rfl (fun h_b => ?_) (fun h_b => ?_)
  · have h_b := z_yF h_ra h_b
    refine lv_iconst (v := (-1)) hx hb dMD_span_47 (by decide) ?_
    subst hQ
    exact zp_iret hx hb hr hlocks (Or.inl ⟨h_b, rfl⟩) dMD_span_48
  · have h_b := z_yT h_ra h_b
    obtain ⟨k0, hk0, rfl⟩ := z_ofIn h_b.1 h_b.2 (by omega)
    refine lv_aload_n hx hb dMD_span_8 rfl (lv_at hl 0 rfl) ?_
    refine va_get (D := (dC, dI)) (ci := 6) (v := .ref b2) (C := RMD) (T := TMD) (N := 26) hx hb hz in_MD hown hK hP 0 rfl rfl 4 (by decide) (hz _ wd_588) (fun _ h9 => h9) rfl dMD_span_9 ?_
    refine lv_iload_n hx hb dMD_span_12 rfl (lv_at hl 1 rfl) ?_
    refine va_iald hx hb hK hP 3 2 rfl rfl (vp_in_nI (by omega) (by omega)) dMD_span_13 ?_
    refine lv_topi (fun x2 e3 => ?_)
    have e3 : x2 = nI (mm 2 k0) := e3.trans (by show nI (mm 2 (nI k0).toNatClampNeg) = _; rw [nI_clamp (by omega)])
    subst e3
    refine lv_bipush (v := nI 100) hx hb dMD_span_14 (by decide) ?_
    refine lv_aload_n hx hb dMD_span_16 rfl (lv_at hl 0 rfl) ?_
    refine va_get (D := (dC, dI)) (ci := 6) (v := .ref b3) (C := RMD) (T := TMD) (N := 26) hx hb hz in_MD hown hK hP 0 rfl rfl 5 (by decide) (hz _ wd_589) (fun _ h9 => h9) rfl dMD_span_17 ?_
    refine lv_iload_n hx hb dMD_span_20 rfl (lv_at hl 1 rfl) ?_
    refine va_iald hx hb hK hP 4 3 rfl rfl (vp_in_nI (by omega) (by omega)) dMD_span_21 ?_
    refine lv_topi (fun x4 e5 => ?_)
    have e5 : x4 = nI (mm 3 k0) := e5.trans (by show nI (mm 3 (nI k0).toNatClampNeg) = _; rw [nI_clamp (by omega)])
    subst e5
    refine lv_imul hx hb dMD_span_22 ?_
    refine lv_topi (fun x6 e7 => ?_)
    have e7 : x6 = nI (100 * (mm 3 k0)) := e7.trans (pk_mul _ _)
    subst e7
    refine lv_iadd hx hb dMD_span_23 ?_
    refine lv_topi (fun x8 e9 => ?_)
    have e9 : x8 = nI ((mm 2 k0) + (100 * (mm 3 k0))) := e9.trans (nI_add _ _)
    subst e9
    refine lv_sipush (v := nI 10000) hx hb dMD_span_24 (by decide) ?_
    refine lv_aload_n hx hb dMD_span_27 rfl (lv_at hl 0 rfl) ?_
    refine va_get (D := (dC, dI)) (ci := 6) (v := .ref b4) (C := RMD) (T := TMD) (N := 26) hx hb hz in_MD hown hK hP 0 rfl rfl 6 (by decide) (hz _ wd_590) (fun _ h9 => h9) rfl dMD_span_28 ?_
    refine lv_iload_n hx hb dMD_span_31 rfl (lv_at hl 1 rfl) ?_
    refine va_iald hx hb hK hP 5 4 rfl rfl (vp_in_nI (by omega) (by omega)) dMD_span_32 ?_
    refine lv_topi (fun x10 e11 => ?_)
    have e11 : x10 = nI (mm 4 k0) := e11.trans (by show nI (mm 4 (nI k0).toNatClampNeg) = _; rw [nI_clamp (by omega)])
    subst e11
    refine lv_imul hx hb dMD_span_33 ?_
    refine lv_topi (fun x12 e13 => ?_)
    have e13 : x12 = nI (10000 * (mm 4 k0)) := e13.trans (pk_mul _ _)
    subst e13
    refine lv_iadd hx hb dMD_span_34 ?_
    refine lv_topi (fun x14 e15 => ?_)
    have e15 : x14 = nI (((mm 2 k0) + (100 * (mm 3 k0))) + (10000 * (mm 4 k0))) := e15.trans (nI_add _ _)
    subst e15
    refine lv_ldc (v := 1000000) hx hb hown (hz _ wd_738) dMD_span_35 ?_
    refine lv_topi (fun x16 e17 => ?_)
    have e17 : x16 = nI 1000000 := e17.trans (by decide)
    subst e17
    refine lv_aload_n hx hb dMD_span_37 rfl (lv_at hl 0 rfl) ?_
    refine lv_iload_n hx hb dMD_span_38 rfl (lv_at hl 1 rfl) ?_
    refine vp_callSi (W.runV (As := [.int (nI k0)]) (rest := [.int (nI 1000000), .int (nI (((mm 2 k0) + (100 * (mm 3 k0))) + (10000 * (mm 4 k0))))]) ⟨hx, hb, hml, hown, hz⟩ (f_MD_down l dC dI h0 b0 b1 b2 b3 b4 b5 b6 b7 b8 b9 b10 b11 b12 b13 b14 b15 b16 b17 kb0 kb1 kb2 kb3 kb4 kb5 kb6 kb7 kb8 kb9 kb10 kb11 mg n _ rn ro sp gp fx _ k0 (hm) (by omega) (hg) (hG) (hE) (by omega)) (cwV 1 hz (z_gV wd_716 wd_718 wd_17 wd_37 wd_719) rfl rfl rfl (by decide +kernel) ⟨Nat.le_of_ble_eq_true rfl, Nat.le_of_ble_eq_true rfl⟩) (zr_preV hK (hP.sub [0, 1, 2, 3, 4, 5, 6, 7, 8, 9, 10, 11, 12] rfl) (va_recv (q0 := 0) hK hP (q := (RMD, TMD, 26)) rfl rfl) [0, 1, 2, 3, 4, 5, 6, 7, 8, 9, 10, 11] rfl z_true (fun _ _ _ => trivial)) rfl rfl hl.1 rfl (lv_room (Nat.le_of_ble_eq_true rfl)) dMD_span_39 ⟨Nat.le_of_ble_eq_true rfl, Nat.le_of_ble_eq_true rfl⟩) (fun r18 h_r18 => ?_)
    have h_r18 : r18 = nI (zDn mm n k0) := h_r18
    subst h_r18
    refine lv_imul hx hb dMD_span_42 ?_
    refine lv_topi (fun x19 e20 => ?_)
    have e20 : x19 = nI (1000000 * (zDn mm n k0)) := e20.trans (pk_mul _ _)
    subst e20
    refine lv_iadd hx hb dMD_span_43 ?_
    refine lv_topi (fun x21 e22 => ?_)
    have e22 : x21 = nI ((((mm 2 k0) + (100 * (mm 3 k0))) + (10000 * (mm 4 k0))) + (1000000 * (zDn mm n k0))) := e22.trans (nI_add _ _)
    subst e22
    refine lv_goto (tgt := 48) hx hb dMD_span_44 rfl ?_
    subst hQ
    exact zp_iret hx hb hr hlocks (Or.inr ⟨k0, hk0, rfl, rfl⟩) dMD_span_48

set_option maxHeartbeats 4000000 in
set_option maxRecDepth 100000 in
theorem f_MD_strongerA (l : Launch) (dC : Nat → ClassId) (dI : Nat → Nat → Nat) (h0 : Nat) (b0 : Nat) (b1 : Nat) (b2 : Nat) (b3 : Nat) (b4 : Nat) (b5 : Nat) (b6 : Nat) (b7 : Nat) (b8 : Nat) (b9 : Nat) (b10 : Nat) (b11 : Nat) (b12 : Nat) (b13 : Nat) (b14 : Nat) (b15 : Nat) (b16 : Nat) (b17 : Nat) (kb0 : ClassId) (kb1 : ClassId) (kb2 : ClassId) (kb3 : ClassId) (kb4 : ClassId) (kb5 : ClassId) (kb6 : ClassId) (kb7 : ClassId) (kb8 : ClassId) (kb9 : ClassId) (kb10 : ClassId) (kb11 : ClassId) (mg : Nat) (n : Nat) (rg : Nat) (rn : Nat) (ro : Nat) (sp : Nat) (gp : Nat) (fx : Nat) (mm : Nat → Nat → Nat) (k2 : Nat) (hm : ∀ a k, mm a k ≤ 1000) (hn : n ≤ 40) (hg : 1 ≤ mg ∧ mg ≤ 8 ∧ rg ≤ 8 ∧ rn ≤ 1000 ∧ ro ≤ 1000) (hG : ∀ k, k < n → mm 6 k < 8) (hE : ∀ k, k < n → mm 3 k ≤ zEn mm (mm 6 k) n) : zp_M l yMD_stronger wMD_stronger ({ frames := 0, cells := 0, slots := 0, locals := 0 }) [.ref h0, .int (-1), .int (nI k2)] (dC, dI) vwCl [zob h0 6 [.int (nI mg), .ref b0, .ref b1, .int (nI n), .ref b2, .ref b3, .ref b4, .ref b5, .ref b6, .ref b7, .ref b8, .ref b9, .ref b10, .ref b11, .int (nI rg - nI 1), .int (nI rn), .int (nI ro), .int (nI sp), .int (nI gp), .int (nI fx), .ref b12, .ref b13, .ref b14, .ref b15, .ref b16, .ref b17], zar b0 kb0 8 (fun j => nI (mm 0 j)), zar b1 kb1 8 (fun j => nI (mm 1 j)), zar b2 kb2 40 (fun j => nI (mm 2 j)), zar b3 kb3 40 (fun j => nI (mm 3 j)), zar b4 kb4 40 (fun j => nI (mm 4 j)), zar b5 kb5 40 (fun j => nI (mm 5 j)), zar b6 kb6 40 (fun j => nI (mm 6 j)), zar b7 kb7 40 (fun j => nI (mm 7 j)), zar b8 kb8 40 (fun j => nI (mm 8 j)), zar b9 kb9 40 (fun j => nI (mm 9 j)), zar b10 kb10 40 (fun j => nI (mm 10 j)), zar b11 kb11 40 (fun j => nI (mm 11 j))] [(kb0, .int), (kb1, .int), (kb2, .int), (kb3, .int), (kb4, .int), (kb5, .int), (kb6, .int), (kb7, .int), (kb8, .int), (kb9, .int), (kb10, .int), (kb11, .int)] (fun _ => True) (fun r => r = nI k2) := by
  refine zp_head (cc := cMD_stronger) (maxL := 3) (ret := (some .int)) (by decide +kernel) rfl (Nat.le_of_ble_eq_true rfl) ?_
  intro p e s m below meth c ls F hP hK hX hl
  obtain ⟨hx, hb, hml, hr, hlocks, hown, hts⟩ := F
  have hown : s.vm.findClass "SpannedCellsModel" = some m.cls := hown
  have hz : ∀ w9 ∈ zT, w9.before [.ref h0, .int (-1), .int (nI k2)].toArray s = true := fun w9 h => hts w9 (List.mem_cons_of_mem _ h)
  have hl : lv_has ls 3 [(0, .ref h0), (1, .int (-1)), (2, .int (nI k2))] := hl
  refine z_q (fun Q hQ => ?_)
  refine lv_iload_n hx hb dMD_stronger_0 rfl (lv_at hl 1 rfl) ?_
  refine lv_if_lt (tgt := 8) hx hb dMD_stronger_1 rfl (fun _ => ?_) (fun h => absurd (by decide) h)
  refine lv_iload_n hx hb dMD_stronger_8 rfl (lv_at hl 1 rfl) ?_
  refine lv_if_ge (tgt := 16) hx hb dMD_stronger_9 rfl (fun h => absurd h (by decide)) (fun _ => ?_)
  refine lv_iload_n hx hb dMD_stronger_12 rfl (lv_at hl 2 rfl) ?_
  refine lv_goto (tgt := 17) hx hb dMD_stronger_13 rfl ?_
  subst hQ
  exact zp_iret hx hb hr hlocks (rfl) dMD_stronger_17

set_option maxHeartbeats 4000000 in
set_option maxRecDepth 100000 in
theorem f_MD_strongerB (l : Launch) (dC : Nat → ClassId) (dI : Nat → Nat → Nat) (h0 : Nat) (b0 : Nat) (b1 : Nat) (b2 : Nat) (b3 : Nat) (b4 : Nat) (b5 : Nat) (b6 : Nat) (b7 : Nat) (b8 : Nat) (b9 : Nat) (b10 : Nat) (b11 : Nat) (b12 : Nat) (b13 : Nat) (b14 : Nat) (b15 : Nat) (b16 : Nat) (b17 : Nat) (kb0 : ClassId) (kb1 : ClassId) (kb2 : ClassId) (kb3 : ClassId) (kb4 : ClassId) (kb5 : ClassId) (kb6 : ClassId) (kb7 : ClassId) (kb8 : ClassId) (kb9 : ClassId) (kb10 : ClassId) (kb11 : ClassId) (mg : Nat) (n : Nat) (rg : Nat) (rn : Nat) (ro : Nat) (sp : Nat) (gp : Nat) (fx : Nat) (mm : Nat → Nat → Nat) (k1 : Nat) (hm : ∀ a k, mm a k ≤ 1000) (hn : n ≤ 40) (hg : 1 ≤ mg ∧ mg ≤ 8 ∧ rg ≤ 8 ∧ rn ≤ 1000 ∧ ro ≤ 1000) (hG : ∀ k, k < n → mm 6 k < 8) (hE : ∀ k, k < n → mm 3 k ≤ zEn mm (mm 6 k) n) (hk1 : k1 < n) : zp_M l yMD_stronger wMD_stronger ({ frames := 0, cells := 0, slots := 0, locals := 0 }) [.ref h0, .int (nI k1), .int (-1)] (dC, dI) vwCl [zob h0 6 [.int (nI mg), .ref b0, .ref b1, .int (nI n), .ref b2, .ref b3, .ref b4, .ref b5, .ref b6, .ref b7, .ref b8, .ref b9, .ref b10, .ref b11, .int (nI rg - nI 1), .int (nI rn), .int (nI ro), .int (nI sp), .int (nI gp), .int (nI fx), .ref b12, .ref b13, .ref b14, .ref b15, .ref b16, .ref b17], zar b0 kb0 8 (fun j => nI (mm 0 j)), zar b1 kb1 8 (fun j => nI (mm 1 j)), zar b2 kb2 40 (fun j => nI (mm 2 j)), zar b3 kb3 40 (fun j => nI (mm 3 j)), zar b4 kb4 40 (fun j => nI (mm 4 j)), zar b5 kb5 40 (fun j => nI (mm 5 j)), zar b6 kb6 40 (fun j => nI (mm 6 j)), zar b7 kb7 40 (fun j => nI (mm 7 j)), zar b8 kb8 40 (fun j => nI (mm 8 j)), zar b9 kb9 40 (fun j => nI (mm 9 j)), zar b10 kb10 40 (fun j => nI (mm 10 j)), zar b11 kb11 40 (fun j => nI (mm 11 j))] [(kb0, .int), (kb1, .int), (kb2, .int), (kb3, .int), (kb4, .int), (kb5, .int), (kb6, .int), (kb7, .int), (kb8, .int), (kb9, .int), (kb10, .int), (kb11, .int)] (fun _ => True) (fun r => r = nI k1) := by
  refine zp_head (cc := cMD_stronger) (maxL := 3) (ret := (some .int)) (by decide +kernel) rfl (Nat.le_of_ble_eq_true rfl) ?_
  intro p e s m below meth c ls F hP hK hX hl
  obtain ⟨hx, hb, hml, hr, hlocks, hown, hts⟩ := F
  have hown : s.vm.findClass "SpannedCellsModel" = some m.cls := hown
  have hz : ∀ w9 ∈ zT, w9.before [.ref h0, .int (nI k1), .int (-1)].toArray s = true := fun w9 h => hts w9 (List.mem_cons_of_mem _ h)
  have hl : lv_has ls 3 [(0, .ref h0), (1, .int (nI k1)), (2, .int (-1))] := hl
  refine z_q (fun Q hQ => ?_)
  refine lv_iload_n hx hb dMD_stronger_0 rfl (lv_at hl 1 rfl) ?_
  have t1 := nI_toInt (n := k1) (by omega)
  have t2 : (0 : Int32).toInt = 0 := by decide
  refine lv_if_lt (tgt := 8) hx hb dMD_stronger_1 rfl (fun h => by have h := z_lt h; omega) (fun _ => ?_)
  refine lv_iload_n hx hb dMD_stronger_4 rfl (lv_at hl 2 rfl) ?_
  refine lv_if_ge (tgt := 18) hx hb dMD_stronger_5 rfl (fun h => absurd h (by decide)) (fun _ => ?_)
  refine lv_iload_n hx hb dMD_stronger_8 rfl (lv_at hl 1 rfl) ?_
  have t3 := nI_toInt (n := k1) (by omega)
  have t4 : (0 : Int32).toInt = 0 := by decide
  refine lv_if_ge (tgt := 16) hx hb dMD_stronger_9 rfl (fun _ => ?_) (fun h => by have h := z_nle h; omega)
  refine lv_iload_n hx hb dMD_stronger_16 rfl (lv_at hl 1 rfl) ?_
  subst hQ
  exact zp_iret hx hb hr hlocks (rfl) dMD_stronger_17

set_option maxHeartbeats 4000000 in
set_option maxRecDepth 100000 in
theorem f_MD_stronger (l : Launch) (dC : Nat → ClassId) (dI : Nat → Nat → Nat) (h0 : Nat) (b0 : Nat) (b1 : Nat) (b2 : Nat) (b3 : Nat) (b4 : Nat) (b5 : Nat) (b6 : Nat) (b7 : Nat) (b8 : Nat) (b9 : Nat) (b10 : Nat) (b11 : Nat) (b12 : Nat) (b13 : Nat) (b14 : Nat) (b15 : Nat) (b16 : Nat) (b17 : Nat) (kb0 : ClassId) (kb1 : ClassId) (kb2 : ClassId) (kb3 : ClassId) (kb4 : ClassId) (kb5 : ClassId) (kb6 : ClassId) (kb7 : ClassId) (kb8 : ClassId) (kb9 : ClassId) (kb10 : ClassId) (kb11 : ClassId) (mg : Nat) (n : Nat) (rg : Nat) (rn : Nat) (ro : Nat) (sp : Nat) (gp : Nat) (fx : Nat) (mm : Nat → Nat → Nat) (k1 : Nat) (k2 : Nat) (hm : ∀ a k, mm a k ≤ 1000) (hn : n ≤ 40) (hg : 1 ≤ mg ∧ mg ≤ 8 ∧ rg ≤ 8 ∧ rn ≤ 1000 ∧ ro ≤ 1000) (hG : ∀ k, k < n → mm 6 k < 8) (hE : ∀ k, k < n → mm 3 k ≤ zEn mm (mm 6 k) n) (hk1 : k1 < n) (hk2 : k2 < n) : zp_M l yMD_stronger wMD_stronger ({ frames := 0, cells := 0, slots := 0, locals := 0 }) [.ref h0, .int (nI k1), .int (nI k2)] (dC, dI) vwCl [zob h0 6 [.int (nI mg), .ref b0, .ref b1, .int (nI n), .ref b2, .ref b3, .ref b4, .ref b5, .ref b6, .ref b7, .ref b8, .ref b9, .ref b10, .ref b11, .int (nI rg - nI 1), .int (nI rn), .int (nI ro), .int (nI sp), .int (nI gp), .int (nI fx), .ref b12, .ref b13, .ref b14, .ref b15, .ref b16, .ref b17], zar b0 kb0 8 (fun j => nI (mm 0 j)), zar b1 kb1 8 (fun j => nI (mm 1 j)), zar b2 kb2 40 (fun j => nI (mm 2 j)), zar b3 kb3 40 (fun j => nI (mm 3 j)), zar b4 kb4 40 (fun j => nI (mm 4 j)), zar b5 kb5 40 (fun j => nI (mm 5 j)), zar b6 kb6 40 (fun j => nI (mm 6 j)), zar b7 kb7 40 (fun j => nI (mm 7 j)), zar b8 kb8 40 (fun j => nI (mm 8 j)), zar b9 kb9 40 (fun j => nI (mm 9 j)), zar b10 kb10 40 (fun j => nI (mm 10 j)), zar b11 kb11 40 (fun j => nI (mm 11 j))] [(kb0, .int), (kb1, .int), (kb2, .int), (kb3, .int), (kb4, .int), (kb5, .int), (kb6, .int), (kb7, .int), (kb8, .int), (kb9, .int), (kb10, .int), (kb11, .int)] (fun _ => True) (fun r => (zPv (mm 10 k2) (mm 11 k2) (mm 10 k1) (mm 11 k1) ∧ r = nI k2) ∨ (¬ zPv (mm 10 k2) (mm 11 k2) (mm 10 k1) (mm 11 k1) ∧ r = nI k1)) := by
  refine zp_head (cc := cMD_stronger) (maxL := 3) (ret := (some .int)) (by decide +kernel) rfl (Nat.le_of_ble_eq_true rfl) ?_
  intro p e s m below meth c ls F hP hK hX hl
  obtain ⟨hx, hb, hml, hr, hlocks, hown, hts⟩ := F
  have hown : s.vm.findClass "SpannedCellsModel" = some m.cls := hown
  have hz : ∀ w9 ∈ zT, w9.before [.ref h0, .int (nI k1), .int (nI k2)].toArray s = true := fun w9 h => hts w9 (List.mem_cons_of_mem _ h)
  have hl : lv_has ls 3 [(0, .ref h0), (1, .int (nI k1)), (2, .int (nI k2))] := hl
  refine z_q (fun Q hQ => ?_)
  refine lv_iload_n hx hb dMD_stronger_0 rfl (lv_at hl 1 rfl) ?_
  have t1 := nI_toInt (n := k1) (by omega)
  have t2 : (0 : Int32).toInt = 0 := by decide
  refine lv_if_lt (tgt := 8) hx hb dMD_stronger_1 rfl (fun h => by have h := z_lt h; omega) (fun _ => ?_)
  refine lv_iload_n hx hb dMD_stronger_4 rfl (lv_at hl 2 rfl) ?_
  have t3 := nI_toInt (n := k2) (by omega)
  have t4 : (0 : Int32).toInt = 0 := by decide
  refine lv_if_ge (tgt := 18) hx hb dMD_stronger_5 rfl (fun _ => ?_) (fun h => by have h := z_nle h; omega)
  refine lv_aload_n hx hb dMD_stronger_18 rfl (lv_at hl 0 rfl) ?_
  refine va_get (D := (dC, dI)) (ci := 6) (v := .ref b11) (C := RMD) (T := TMD) (N := 26) hx hb hz in_MD hown hK hP 0 rfl rfl 13 (by decide) (hz _ wd_597) (fun _ h9 => h9) rfl dMD_stronger_19 ?_
  refine lv_iload_n hx hb dMD_stronger_22 rfl (lv_at hl 1 rfl) ?_
  refine va_iald hx hb hK hP 12 11 rfl rfl (vp_in_nI (by omega) (by omega)) dMD_stronger_23 ?_
  refine lv_topi (fun x5 e6 => ?_)
  have e6 : x5 = nI (mm 11 k1) := e6.trans (by show nI (mm 11 (nI k1).toNatClampNeg) = _; rw [nI_clamp (by omega)])
  subst e6
  refine lv_iconst (v := nI 4) hx hb dMD_stronger_24 (by decide) ?_
  have t7 := hm 11 k1
  have t8 := nI_toInt (n := mm 11 k1) (by omega)
  have t9 := nI_toInt (n := 4) (by omega)
  refine lv_icmp_eq (tgt := 38) hx hb dMD_stronger_25 rfl (fun h10 => ?_) (fun h10 => ?_)
  · have h10 := z_eq h10
    refine lv_aload_n hx hb dMD_stronger_38 rfl (lv_at hl 0 rfl) ?_
    refine va_get (D := (dC, dI)) (ci := 6) (v := .ref b11) (C := RMD) (T := TMD) (N := 26) hx hb hz in_MD hown hK hP 0 rfl rfl 13 (by decide) (hz _ wd_597) (fun _ h9 => h9) rfl dMD_stronger_39 ?_
    refine lv_iload_n hx hb dMD_stronger_42 rfl (lv_at hl 1 rfl) ?_
    refine va_iald hx hb hK hP 12 11 rfl rfl (vp_in_nI (by omega) (by omega)) dMD_stronger_43 ?_
    refine lv_topi (fun x11 e12 => ?_)
    have e12 : x11 = nI (mm 11 k1) := e12.trans (by show nI (mm 11 (nI k1).toNatClampNeg) = _; rw [nI_clamp (by omega)])
    subst e12
    refine lv_iconst (v := nI 4) hx hb dMD_stronger_44 (by decide) ?_
    have t13 := hm 11 k1
    have t14 := nI_toInt (n := mm 11 k1) (by omega)
    have t15 := nI_toInt (n := 4) (by omega)
    refine lv_icmp_ne (tgt := 52) hx hb dMD_stronger_45 rfl (fun h16 => ?_) (fun h16 => ?_)
    · have h16 := z_ne h16
      refine lv_iload_n hx hb dMD_stronger_52 rfl (lv_at hl 2 rfl) ?_
      subst hQ
      exact zp_iret hx hb hr hlocks (Or.inl ⟨show _ ∧ _ by omega, rfl⟩) dMD_stronger_53
    · have h16 := z_eq h16
      refine lv_iload_n hx hb dMD_stronger_48 rfl (lv_at hl 1 rfl) ?_
      refine lv_goto (tgt := 53) hx hb dMD_stronger_49 rfl ?_
      subst hQ
      exact zp_iret hx hb hr hlocks (Or.inr ⟨show ¬ (_ ∧ _) by omega, rfl⟩) dMD_stronger_53
  · have h10 := z_ne h10
    refine lv_aload_n hx hb dMD_stronger_28 rfl (lv_at hl 0 rfl) ?_
    refine va_get (D := (dC, dI)) (ci := 6) (v := .ref b11) (C := RMD) (T := TMD) (N := 26) hx hb hz in_MD hown hK hP 0 rfl rfl 13 (by decide) (hz _ wd_597) (fun _ h9 => h9) rfl dMD_stronger_29 ?_
    refine lv_iload_n hx hb dMD_stronger_32 rfl (lv_at hl 2 rfl) ?_
    refine va_iald hx hb hK hP 12 11 rfl rfl (vp_in_nI (by omega) (by omega)) dMD_stronger_33 ?_
    refine lv_topi (fun x17 e18 => ?_)
    have e18 : x17 = nI (mm 11 k2) := e18.trans (by show nI (mm 11 (nI k2).toNatClampNeg) = _; rw [nI_clamp (by omega)])
    subst e18
    refine lv_iconst (v := nI 4) hx hb dMD_stronger_34 (by decide) ?_
    have t19 := hm 11 k2
    have t20 := nI_toInt (n := mm 11 k2) (by omega)
    have t21 := nI_toInt (n := 4) (by omega)
    refine lv_icmp_ne (tgt := 54) hx hb dMD_stronger_35 rfl (fun h22 => ?_) (fun h22 => ?_)
    · have h22 := z_ne h22
      refine lv_aload_n hx hb dMD_stronger_54 rfl (lv_at hl 0 rfl) ?_
      refine va_get (D := (dC, dI)) (ci := 6) (v := .ref b10) (C := RMD) (T := TMD) (N := 26) hx hb hz in_MD hown hK hP 0 rfl rfl 12 (by decide) (hz _ wd_596) (fun _ h9 => h9) rfl dMD_stronger_55 ?_
      refine lv_iload_n hx hb dMD_stronger_58 rfl (lv_at hl 1 rfl) ?_
      refine va_iald hx hb hK hP 11 10 rfl rfl (vp_in_nI (by omega) (by omega)) dMD_stronger_59 ?_
      refine lv_topi (fun x23 e24 => ?_)
      have e24 : x23 = nI (mm 10 k1) := e24.trans (by show nI (mm 10 (nI k1).toNatClampNeg) = _; rw [nI_clamp (by omega)])
      subst e24
      refine lv_aload_n hx hb dMD_stronger_60 rfl (lv_at hl 0 rfl) ?_
      refine va_get (D := (dC, dI)) (ci := 6) (v := .ref b10) (C := RMD) (T := TMD) (N := 26) hx hb hz in_MD hown hK hP 0 rfl rfl 12 (by decide) (hz _ wd_596) (fun _ h9 => h9) rfl dMD_stronger_61 ?_
      refine lv_iload_n hx hb dMD_stronger_64 rfl (lv_at hl 2 rfl) ?_
      refine va_iald hx hb hK hP 11 10 rfl rfl (vp_in_nI (by omega) (by omega)) dMD_stronger_65 ?_
      refine lv_topi (fun x25 e26 => ?_)
      have e26 : x25 = nI (mm 10 k2) := e26.trans (by show nI (mm 10 (nI k2).toNatClampNeg) = _; rw [nI_clamp (by omega)])
      subst e26
      have t27 := hm 10 k1
      have t28 := nI_toInt (n := mm 10 k1) (by omega)
      have t29 := hm 10 k2
      have t30 := nI_toInt (n := mm 10 k2) (by omega)
      refine lv_icmp_eq (tgt := 90) hx hb dMD_stronger_66 rfl (fun h31 => ?_) (fun h31 => ?_)
      · have h31 := z_eq h31
        refine lv_aload_n hx hb dMD_stronger_90 rfl (lv_at hl 0 rfl) ?_
        refine va_get (D := (dC, dI)) (ci := 6) (v := .ref b11) (C := RMD) (T := TMD) (N := 26) hx hb hz in_MD hown hK hP 0 rfl rfl 13 (by decide) (hz _ wd_597) (fun _ h9 => h9) rfl dMD_stronger_91 ?_
        refine lv_iload_n hx hb dMD_stronger_94 rfl (lv_at hl 2 rfl) ?_
        refine va_iald hx hb hK hP 12 11 rfl rfl (vp_in_nI (by omega) (by omega)) dMD_stronger_95 ?_
        refine lv_topi (fun x32 e33 => ?_)
        have e33 : x32 = nI (mm 11 k2) := e33.trans (by show nI (mm 11 (nI k2).toNatClampNeg) = _; rw [nI_clamp (by omega)])
        subst e33
        refine lv_aload_n hx hb dMD_stronger_96 rfl (lv_at hl 0 rfl) ?_
        refine va_get (D := (dC, dI)) (ci := 6) (v := .ref b11) (C := RMD) (T := TMD) (N := 26) hx hb hz in_MD hown hK hP 0 rfl rfl 13 (by decide) (hz _ wd_597) (fun _ h9 => h9) rfl dMD_stronger_97 ?_
        refine lv_iload_n hx hb dMD_stronger_100 rfl (lv_at hl 1 rfl) ?_
        refine va_iald hx hb hK hP 12 11 rfl rfl (vp_in_nI (by omega) (by omega)) dMD_stronger_101 ?_
        refine lv_topi (fun x34 e35 => ?_)
        have e35 : x34 = nI (mm 11 k1) := e35.trans (by show nI (mm 11 (nI k1).toNatClampNeg) = _; rw [nI_clamp (by omega)])
        subst e35
        have t36 := hm 11 k2
        have t37 := nI_toInt (n := mm 11 k2) (by omega)
        have t38 := hm 11 k1
        have t39 := nI_toInt (n := mm 11 k1) (by omega)
        refine lv_icmp_le (tgt := 109) hx hb dMD_stronger_102 rfl (fun h40 => ?_) (fun h40 => ?_)
        · have h40 := z_le h40
          refine lv_iload_n hx hb dMD_stronger_109 rfl (lv_at hl 1 rfl) ?_
          subst hQ
          exact zp_iret hx hb hr hlocks (Or.inr ⟨show ¬ (_ ∧ _) by omega, rfl⟩) dMD_stronger_110
        · have h40 := z_nle h40
          refine lv_iload_n hx hb dMD_stronger_105 rfl (lv_at hl 2 rfl) ?_
          refine lv_goto (tgt := 110) hx hb dMD_stronger_106 rfl ?_
          subst hQ
          exact zp_iret hx hb hr hlocks (Or.inl ⟨show _ ∧ _ by omega, rfl⟩) dMD_stronger_110
      · have h31 := z_ne h31
        refine lv_aload_n hx hb dMD_stronger_69 rfl (lv_at hl 0 rfl) ?_
        refine va_get (D := (dC, dI)) (ci := 6) (v := .ref b10) (C := RMD) (T := TMD) (N := 26) hx hb hz in_MD hown hK hP 0 rfl rfl 12 (by decide) (hz _ wd_596) (fun _ h9 => h9) rfl dMD_stronger_70 ?_
        refine lv_iload_n hx hb dMD_stronger_73 rfl (lv_at hl 1 rfl) ?_
        refine va_iald hx hb hK hP 11 10 rfl rfl (vp_in_nI (by omega) (by omega)) dMD_stronger_74 ?_
        refine lv_topi (fun x41 e42 => ?_)
        have e42 : x41 = nI (mm 10 k1) := e42.trans (by show nI (mm 10 (nI k1).toNatClampNeg) = _; rw [nI_clamp (by omega)])
        subst e42
        refine lv_aload_n hx hb dMD_stronger_75 rfl (lv_at hl 0 rfl) ?_
        refine va_get (D := (dC, dI)) (ci := 6) (v := .ref b10) (C := RMD) (T := TMD) (N := 26) hx hb hz in_MD hown hK hP 0 rfl rfl 12 (by decide) (hz _ wd_596) (fun _ h9 => h9) rfl dMD_stronger_76 ?_
        refine lv_iload_n hx hb dMD_stronger_79 rfl (lv_at hl 2 rfl) ?_
        refine va_iald hx hb hK hP 11 10 rfl rfl (vp_in_nI (by omega) (by omega)) dMD_stronger_80 ?_
        refine lv_topi (fun x43 e44 => ?_)
        have e44 : x43 = nI (mm 10 k2) := e44.trans (by show nI (mm 10 (nI k2).toNatClampNeg) = _; rw [nI_clamp (by omega)])
        subst e44
        have t45 := hm 10 k1
        have t46 := nI_toInt (n := mm 10 k1) (by omega)
        have t47 := hm 10 k2
        have t48 := nI_toInt (n := mm 10 k2) (by omega)
        refine lv_icmp_le (tgt := 88) hx hb dMD_stronger_81 rfl (fun h49 => ?_) (fun h49 => ?_)
        · have h49 := z_le h49
          refine lv_iload_n hx hb dMD_stronger_88 rfl (lv_at hl 2 rfl) ?_
          subst hQ
          exact zp_iret hx hb hr hlocks (Or.inl ⟨show _ ∧ _ by omega, rfl⟩) dMD_stronger_89
        · have h49 := z_nle h49
          refine lv_iload_n hx hb dMD_stronger_84 rfl (lv_at hl 1 rfl) ?_
          refine lv_goto (tgt := 89) hx hb dMD_stronger_85 rfl ?_
          subst hQ
          exact zp_iret hx hb hr hlocks (Or.inr ⟨show ¬ (_ ∧ _) by omega, rfl⟩) dMD_stronger_89
    · have h22 := z_eq h22
      refine lv_aload_n hx hb dMD_stronger_38 rfl (lv_at hl 0 rfl) ?_
      refine va_get (D := (dC, dI)) (ci := 6) (v := .ref b11) (C := RMD) (T := TMD) (N := 26) hx hb hz in_MD hown hK hP 0 rfl rfl 13 (by decide) (hz _ wd_597) (fun _ h9 => h9) rfl dMD_stronger_39 ?_
      refine lv_iload_n hx hb dMD_stronger_42 rfl (lv_at hl 1 rfl) ?_
      refine va_iald hx hb hK hP 12 11 rfl rfl (vp_in_nI (by omega) (by omega)) dMD_stronger_43 ?_
      refine lv_topi (fun x50 e51 => ?_)
      have e51 : x50 = nI (mm 11 k1) := e51.trans (by show nI (mm 11 (nI k1).toNatClampNeg) = _; rw [nI_clamp (by omega)])
      subst e51
      refine lv_iconst (v := nI 4) hx hb dMD_stronger_44 (by decide) ?_
      have t52 := hm 11 k1
      have t53 := nI_toInt (n := mm 11 k1) (by omega)
      have t54 := nI_toInt (n := 4) (by omega)
      refine lv_icmp_ne (tgt := 52) hx hb dMD_stronger_45 rfl (fun h55 => ?_) (fun h55 => ?_)
      · have h55 := z_ne h55
        refine lv_iload_n hx hb dMD_stronger_52 rfl (lv_at hl 2 rfl) ?_
        subst hQ
        exact zp_iret hx hb hr hlocks (Or.inl ⟨show _ ∧ _ by omega, rfl⟩) dMD_stronger_53
      · have h55 := z_eq h55
        refine lv_iload_n hx hb dMD_stronger_48 rfl (lv_at hl 1 rfl) ?_
        refine lv_goto (tgt := 53) hx hb dMD_stronger_49 rfl ?_
        subst hQ
        exact zp_iret hx hb hr hlocks (Or.inr ⟨show ¬ (_ ∧ _) by omega, rfl⟩) dMD_stronger_53

set_option maxHeartbeats 4000000 in
set_option maxRecDepth 100000 in
theorem f_MD_edge (l : Launch) (dC : Nat → ClassId) (dI : Nat → Nat → Nat) (h0 : Nat) (b0 : Nat) (b1 : Nat) (b2 : Nat) (b3 : Nat) (b4 : Nat) (b5 : Nat) (b6 : Nat) (b7 : Nat) (b8 : Nat) (b9 : Nat) (b10 : Nat) (b11 : Nat) (b12 : Nat) (b13 : Nat) (b14 : Nat) (b15 : Nat) (b16 : Nat) (b17 : Nat) (kb0 : ClassId) (kb1 : ClassId) (kb2 : ClassId) (kb3 : ClassId) (kb4 : ClassId) (kb5 : ClassId) (kb6 : ClassId) (kb7 : ClassId) (kb8 : ClassId) (kb9 : ClassId) (kb10 : ClassId) (kb11 : ClassId) (mg : Nat) (n : Nat) (rg : Nat) (rn : Nat) (ro : Nat) (sp : Nat) (gp : Nat) (fx : Nat) (mm : Nat → Nat → Nat) (x : Int32) (y : Int32) (f : Int32) (hm : ∀ a k, mm a k ≤ 1000) (hn : n ≤ 40) (hg : 1 ≤ mg ∧ mg ≤ 8 ∧ rg ≤ 8 ∧ rn ≤ 1000 ∧ ro ≤ 1000) (hG : ∀ k, k < n → mm 6 k < 8) (hE : ∀ k, k < n → mm 3 k ≤ zEn mm (mm 6 k) n) : zp_M l yMD_edge wMD_edge ({ frames := 4, cells := 0, slots := 0, locals := 92 }) [.ref h0, .int x, .int y, .int f] (dC, dI) vwCl [zob h0 6 [.int (nI mg), .ref b0, .ref b1, .int (nI n), .ref b2, .ref b3, .ref b4, .ref b5, .ref b6, .ref b7, .ref b8, .ref b9, .ref b10, .ref b11, .int (nI rg - nI 1), .int (nI rn), .int (nI ro), .int (nI sp), .int (nI gp), .int (nI fx), .ref b12, .ref b13, .ref b14, .ref b15, .ref b16, .ref b17], zar b0 kb0 8 (fun j => nI (mm 0 j)), zar b1 kb1 8 (fun j => nI (mm 1 j)), zar b2 kb2 40 (fun j => nI (mm 2 j)), zar b3 kb3 40 (fun j => nI (mm 3 j)), zar b4 kb4 40 (fun j => nI (mm 4 j)), zar b5 kb5 40 (fun j => nI (mm 5 j)), zar b6 kb6 40 (fun j => nI (mm 6 j)), zar b7 kb7 40 (fun j => nI (mm 7 j)), zar b8 kb8 40 (fun j => nI (mm 8 j)), zar b9 kb9 40 (fun j => nI (mm 9 j)), zar b10 kb10 40 (fun j => nI (mm 10 j)), zar b11 kb11 40 (fun j => nI (mm 11 j))] [(kb0, .int), (kb1, .int), (kb2, .int), (kb3, .int), (kb4, .int), (kb5, .int), (kb6, .int), (kb7, .int), (kb8, .int), (kb9, .int), (kb10, .int), (kb11, .int)] (fun _ => True) (fun r => (¬ ((0 ≤ x.toInt ∧ x.toInt < zCo mm n) ∧ (0 ≤ y.toInt ∧ y.toInt < zEn mm (mg - 1) n)) ∧ r = -1) ∨ (((0 ≤ x.toInt ∧ x.toInt < zCo mm n) ∧ (0 ≤ y.toInt ∧ y.toInt < zEn mm (mg - 1) n)) ∧ ∃ c1 c2, zFst n (zMt mm n x y) c1 ∧ zFst n (zMt mm n (if f = 0 then x + nI 1 else x) (if f = 0 then y else y + nI 1)) c2 ∧ zDr n (mm 10) (mm 11) c1 c2 r)) := by
  refine zp_head (cc := cMD_edge) (maxL := 6) (ret := (some .int)) (by decide +kernel) rfl (Nat.le_of_ble_eq_true rfl) ?_
  intro p e s m below meth c ls F hP hK hX hl
  obtain ⟨hx, hb, hml, hr, hlocks, hown, hts⟩ := F
  have hown : s.vm.findClass "SpannedCellsModel" = some m.cls := hown
  have hz : ∀ w9 ∈ zT, w9.before [.ref h0, .int x, .int y, .int f].toArray s = true := fun w9 h => hts w9 (List.mem_cons_of_mem _ h)
  have hl : lv_has ls 6 [(0, .ref h0), (1, .int x), (2, .int y), (3, .int f)] := hl
  refine z_q (fun Q hQ => ?_)
  refine lv_iload_n hx hb dMD_edge_0 rfl (lv_at hl 1 rfl) ?_
  have t1 : (0 : Int32).toInt = 0 := by decide
  refine lv_if_lt (tgt := 24) hx hb dMD_edge_1 rfl (fun h2 => ?_) (fun h2 => ?_)
  · have h2 := z_lt h2
    refine lv_iconst (v := (-1)) hx hb dMD_edge_24 (by decide) ?_
    subst hQ
    exact zp_iret hx hb hr hlocks (Or.inl ⟨by omega, rfl⟩) dMD_edge_25
  · have h2 := z_nlt h2
    refine lv_iload_n hx hb dMD_edge_4 rfl (lv_at hl 1 rfl) ?_
    refine lv_aload_n hx hb dMD_edge_5 rfl (lv_at hl 0 rfl) ?_
    refine vp_callSi (W.runV (As := []) (rest := [.int x]) ⟨hx, hb, hml, hown, hz⟩ (f_MD_columns l dC dI h0 b0 b1 b2 b3 b4 b5 b6 b7 b8 b9 b10 b11 b12 b13 b14 b15 b16 b17 kb0 kb1 kb2 kb3 kb4 kb5 kb6 kb7 kb8 kb9 kb10 kb11 mg n _ rn ro sp gp fx _ (hm) (by omega) (hg) (hG) (hE)) (cwV 0 hz (z_gV wd_732 wd_701 wd_702 wd_37 wd_703) rfl rfl rfl (by decide +kernel) ⟨Nat.le_of_ble_eq_true rfl, Nat.le_of_ble_eq_true rfl⟩) (zr_preV hK (hP.sub [0, 1, 2, 3, 4, 5, 6, 7, 8, 9, 10, 11, 12] rfl) (va_recv (q0 := 0) hK hP (q := (RMD, TMD, 26)) rfl rfl) [0, 1, 2, 3, 4, 5, 6, 7, 8, 9, 10, 11] rfl z_true (fun _ _ _ => trivial)) rfl rfl hl.1 rfl (lv_room (Nat.le_of_ble_eq_true rfl)) dMD_edge_6 ⟨Nat.le_of_ble_eq_true rfl, Nat.le_of_ble_eq_true rfl⟩) (fun r3 h_r3 => ?_)
    have h_r3 : r3 = nI (zCo mm n) := h_r3
    subst h_r3
    have t4 := zCo_le hm n
    have t5 := nI_toInt (n := zCo mm n) (by omega)
    refine lv_icmp_ge (tgt := 24) hx hb dMD_edge_9 rfl (fun h6 => ?_) (fun h6 => ?_)
    · have h6 := z_le h6
      refine lv_iconst (v := (-1)) hx hb dMD_edge_24 (by decide) ?_
      subst hQ
      exact zp_iret hx hb hr hlocks (Or.inl ⟨by omega, rfl⟩) dMD_edge_25
    · have h6 := z_nle h6
      refine lv_iload_n hx hb dMD_edge_12 rfl (lv_at hl 2 rfl) ?_
      have t7 : (0 : Int32).toInt = 0 := by decide
      refine lv_if_lt (tgt := 24) hx hb dMD_edge_13 rfl (fun h8 => ?_) (fun h8 => ?_)
      · have h8 := z_lt h8
        refine lv_iconst (v := (-1)) hx hb dMD_edge_24 (by decide) ?_
        subst hQ
        exact zp_iret hx hb hr hlocks (Or.inl ⟨by omega, rfl⟩) dMD_edge_25
      · have h8 := z_nlt h8
        refine lv_iload_n hx hb dMD_edge_16 rfl (lv_at hl 2 rfl) ?_
        refine lv_aload_n hx hb dMD_edge_17 rfl (lv_at hl 0 rfl) ?_
        refine vp_callSi (W.runV (As := []) (rest := [.int y]) ⟨hx, hb, hml, hown, hz⟩ (f_MD_rows l dC dI h0 b0 b1 b2 b3 b4 b5 b6 b7 b8 b9 b10 b11 b12 b13 b14 b15 b16 b17 kb0 kb1 kb2 kb3 kb4 kb5 kb6 kb7 kb8 kb9 kb10 kb11 mg n _ rn ro sp gp fx _ (hm) (by omega) (hg) (hG) (hE)) (cwV 0 hz (z_gV wd_733 wd_705 wd_706 wd_37 wd_707) rfl rfl rfl (by decide +kernel) ⟨Nat.le_of_ble_eq_true rfl, Nat.le_of_ble_eq_true rfl⟩) (zr_preV hK (hP.sub [0, 1, 2, 3, 4, 5, 6, 7, 8, 9, 10, 11, 12] rfl) (va_recv (q0 := 0) hK hP (q := (RMD, TMD, 26)) rfl rfl) [0, 1, 2, 3, 4, 5, 6, 7, 8, 9, 10, 11] rfl z_true (fun _ _ _ => trivial)) rfl rfl hl.1 rfl (lv_room (Nat.le_of_ble_eq_true rfl)) dMD_edge_18 ⟨Nat.le_of_ble_eq_true rfl, Nat.le_of_ble_eq_true rfl⟩) (fun r9 h_r9 => ?_)
        have h_r9 : r9 = nI (zEn mm (mg - 1) n) := h_r9
        subst h_r9
        have t10 := zEn_le hm (mg - 1) n
        have t11 := nI_toInt (n := zEn mm (mg - 1) n) (by omega)
        refine lv_icmp_lt (tgt := 26) hx hb dMD_edge_21 rfl (fun h12 => ?_) (fun h12 => ?_)
        · have h12 := z_lt h12
          refine lv_aload_n hx hb dMD_edge_26 rfl (lv_at hl 0 rfl) ?_
          refine lv_iload_n hx hb dMD_edge_27 rfl (lv_at hl 1 rfl) ?_
          refine lv_iload_n hx hb dMD_edge_28 rfl (lv_at hl 2 rfl) ?_
          refine vp_callSi (W.runV (As := [.int x, .int y]) (rest := []) ⟨hx, hb, hml, hown, hz⟩ (f_MD_slot l dC dI h0 b0 b1 b2 b3 b4 b5 b6 b7 b8 b9 b10 b11 b12 b13 b14 b15 b16 b17 kb0 kb1 kb2 kb3 kb4 kb5 kb6 kb7 kb8 kb9 kb10 kb11 mg n _ rn ro sp gp fx _ x y (hm) (by omega) (hg) (hG) (hE)) (cwV 2 hz (z_gV wd_797 wd_709 wd_710 wd_37 wd_711) rfl rfl rfl (by decide +kernel) ⟨Nat.le_of_ble_eq_true rfl, Nat.le_of_ble_eq_true rfl⟩) (zr_preV hK (hP.sub [0, 1, 2, 3, 4, 5, 6, 7, 8, 9, 10, 11, 12] rfl) (va_recv (q0 := 0) hK hP (q := (RMD, TMD, 26)) rfl rfl) [0, 1, 2, 3, 4, 5, 6, 7, 8, 9, 10, 11] rfl z_true (fun _ _ _ => trivial)) rfl rfl hl.1 rfl (lv_room (Nat.le_of_ble_eq_true rfl)) dMD_edge_29 ⟨Nat.le_of_ble_eq_true rfl, Nat.le_of_ble_eq_true rfl⟩) (fun rc h_rc => ?_)
          have h_rc : zFst n (zMt mm n x y) rc := h_rc
          refine lv_istore hx hb dMD_edge_32 hl (Nat.le_of_ble_eq_true rfl) rfl (fun ls hl => ?_)
          have hl : lv_has ls 6 [(4, .int rc), (0, .ref h0), (1, .int x), (2, .int y), (3, .int f)] := hl
          refine z_join (fun v : Int32 => zFst n (zMt mm n (if f = 0 then x + nI 1 else x) (if f = 0 then y else y + nI 1)) v) (fun v => W p l e ({ frames := 4, cells := 0, slots := 0, locals := 92 }) s m [.ref h0, .int x, .int y, .int f].toArray below meth c s.heap [] 0 0 Q (F0 m 57 ls (.int v :: []))) (fun v hv => ?_) (fun J57 => ?_)
          · refine lv_istore hx hb dMD_edge_57 hl (Nat.le_of_ble_eq_true rfl) rfl (fun ls hl => ?_)
            have hl : lv_has ls 6 [(5, .int v), (4, .int rc), (0, .ref h0), (1, .int x), (2, .int y), (3, .int f)] := hl
            refine lv_iload hx hb dMD_edge_59 (lv_at hl 1 rfl) ?_
            refine lv_iload hx hb dMD_edge_61 (lv_at hl 0 rfl) ?_
            refine lv_icmp_ne (tgt := 70) hx hb dMD_edge_63 rfl (fun h_e => ?_) (fun h_e => ?_)
            · rcases zFst_or h_rc with rfl | ⟨k1, hk1, rfl⟩ <;> rcases zFst_or hv with rfl | ⟨k2, hk2, rfl⟩
              · exact absurd rfl h_e
              · refine lv_aload_n hx hb dMD_edge_70 rfl (lv_at hl 2 rfl) ?_
                refine lv_iload hx hb dMD_edge_71 (lv_at hl 1 rfl) ?_
                refine lv_iload hx hb dMD_edge_73 (lv_at hl 0 rfl) ?_
                refine vp_callSi (W.runV (As := [.int (-1), .int (nI k2)]) (rest := []) ⟨hx, hb, hml, hown, hz⟩ (f_MD_strongerA l dC dI h0 b0 b1 b2 b3 b4 b5 b6 b7 b8 b9 b10 b11 b12 b13 b14 b15 b16 b17 kb0 kb1 kb2 kb3 kb4 kb5 kb6 kb7 kb8 kb9 kb10 kb11 mg n _ rn ro sp gp fx _ k2 (hm) (by omega) (hg) (hG) (hE)) (cwV 2 hz (z_gV wd_798 wd_800 wd_27 wd_37 wd_801) rfl rfl rfl (by decide +kernel) ⟨Nat.le_of_ble_eq_true rfl, Nat.le_of_ble_eq_true rfl⟩) (zr_preV hK (hP.sub [0, 1, 2, 3, 4, 5, 6, 7, 8, 9, 10, 11, 12] rfl) (va_recv (q0 := 0) hK hP (q := (RMD, TMD, 26)) rfl rfl) [0, 1, 2, 3, 4, 5, 6, 7, 8, 9, 10, 11] rfl z_true (fun _ _ _ => trivial)) rfl rfl hl.1 rfl (lv_room (Nat.le_of_ble_eq_true rfl)) dMD_edge_75 ⟨Nat.le_of_ble_eq_true rfl, Nat.le_of_ble_eq_true rfl⟩) (fun rs h_rs => ?_)
                have h_rs : rs = nI k2 := h_rs
                subst h_rs
                subst hQ
                exact zp_iret hx hb hr hlocks (Or.inr ⟨by omega, (-1), nI k2, h_rc, hv, Or.inr (Or.inl ⟨h_e, fun h9 => by have := z_m1; omega, rfl⟩)⟩) dMD_edge_78
              · refine lv_aload_n hx hb dMD_edge_70 rfl (lv_at hl 2 rfl) ?_
                refine lv_iload hx hb dMD_edge_71 (lv_at hl 1 rfl) ?_
                refine lv_iload hx hb dMD_edge_73 (lv_at hl 0 rfl) ?_
                refine vp_callSi (W.runV (As := [.int (nI k1), .int (-1)]) (rest := []) ⟨hx, hb, hml, hown, hz⟩ (f_MD_strongerB l dC dI h0 b0 b1 b2 b3 b4 b5 b6 b7 b8 b9 b10 b11 b12 b13 b14 b15 b16 b17 kb0 kb1 kb2 kb3 kb4 kb5 kb6 kb7 kb8 kb9 kb10 kb11 mg n _ rn ro sp gp fx _ k1 (hm) (by omega) (hg) (hG) (hE) (by omega)) (cwV 2 hz (z_gV wd_798 wd_800 wd_27 wd_37 wd_801) rfl rfl rfl (by decide +kernel) ⟨Nat.le_of_ble_eq_true rfl, Nat.le_of_ble_eq_true rfl⟩) (zr_preV hK (hP.sub [0, 1, 2, 3, 4, 5, 6, 7, 8, 9, 10, 11, 12] rfl) (va_recv (q0 := 0) hK hP (q := (RMD, TMD, 26)) rfl rfl) [0, 1, 2, 3, 4, 5, 6, 7, 8, 9, 10, 11] rfl z_true (fun _ _ _ => trivial)) rfl rfl hl.1 rfl (lv_room (Nat.le_of_ble_eq_true rfl)) dMD_edge_75 ⟨Nat.le_of_ble_eq_true rfl, Nat.le_of_ble_eq_true rfl⟩) (fun rs h_rs => ?_)
                have h_rs : rs = nI k1 := h_rs
                subst h_rs
                subst hQ
                exact zp_iret hx hb hr hlocks (Or.inr ⟨by omega, nI k1, (-1), h_rc, hv, Or.inr (Or.inr (Or.inl ⟨h_e, by have := nI_toInt (n := k1) (by omega); omega, fun h9 => by have := z_m1; omega, rfl⟩))⟩) dMD_edge_78
              · refine lv_aload_n hx hb dMD_edge_70 rfl (lv_at hl 2 rfl) ?_
                refine lv_iload hx hb dMD_edge_71 (lv_at hl 1 rfl) ?_
                refine lv_iload hx hb dMD_edge_73 (lv_at hl 0 rfl) ?_
                refine vp_callSi (W.runV (As := [.int (nI k1), .int (nI k2)]) (rest := []) ⟨hx, hb, hml, hown, hz⟩ (f_MD_stronger l dC dI h0 b0 b1 b2 b3 b4 b5 b6 b7 b8 b9 b10 b11 b12 b13 b14 b15 b16 b17 kb0 kb1 kb2 kb3 kb4 kb5 kb6 kb7 kb8 kb9 kb10 kb11 mg n _ rn ro sp gp fx _ k1 k2 (hm) (by omega) (hg) (hG) (hE) (by omega) (by omega)) (cwV 2 hz (z_gV wd_798 wd_800 wd_27 wd_37 wd_801) rfl rfl rfl (by decide +kernel) ⟨Nat.le_of_ble_eq_true rfl, Nat.le_of_ble_eq_true rfl⟩) (zr_preV hK (hP.sub [0, 1, 2, 3, 4, 5, 6, 7, 8, 9, 10, 11, 12] rfl) (va_recv (q0 := 0) hK hP (q := (RMD, TMD, 26)) rfl rfl) [0, 1, 2, 3, 4, 5, 6, 7, 8, 9, 10, 11] rfl z_true (fun _ _ _ => trivial)) rfl rfl hl.1 rfl (lv_room (Nat.le_of_ble_eq_true rfl)) dMD_edge_75 ⟨Nat.le_of_ble_eq_true rfl, Nat.le_of_ble_eq_true rfl⟩) (fun rs h_rs => ?_)
                have h_rs : (zPv (mm 10 k2) (mm 11 k2) (mm 10 k1) (mm 11 k1) ∧ rs = nI k2) ∨ (¬ zPv (mm 10 k2) (mm 11 k2) (mm 10 k1) (mm 11 k1) ∧ rs = nI k1) := h_rs
                subst hQ
                exact zp_iret hx hb hr hlocks (Or.inr ⟨by omega, nI k1, nI k2, h_rc, hv, Or.inr (Or.inr (Or.inr ⟨h_e, k1, k2, hk1, hk2, rfl, rfl, h_rs⟩))⟩) dMD_edge_78
            · refine lv_iconst (v := (-1)) hx hb dMD_edge_66 (by decide) ?_
              refine lv_goto (tgt := 78) hx hb dMD_edge_67 rfl ?_
              subst hQ
              exact zp_iret hx hb hr hlocks (Or.inr ⟨by omega, rc, v, h_rc, hv, Or.inl ⟨h_e, rfl⟩⟩) dMD_edge_78
          · refine lv_iload_n hx hb dMD_edge_34 rfl (lv_at hl 4 rfl) ?_
            refine lv_if_eq (tgt := 49) hx hb dMD_edge_35 rfl (fun h_f => ?_) (fun h_f => ?_)
            · refine lv_aload_n hx hb dMD_edge_49 rfl (lv_at hl 1 rfl) ?_
              refine lv_iload_n hx hb dMD_edge_50 rfl (lv_at hl 2 rfl) ?_
              refine lv_iconst (v := nI 1) hx hb dMD_edge_51 (by decide) ?_
              refine lv_iadd hx hb dMD_edge_52 ?_
              refine lv_iload_n hx hb dMD_edge_53 rfl (lv_at hl 3 rfl) ?_
              refine vp_callSi (W.runV (As := [.int (x + (nI 1)), .int y]) (rest := []) ⟨hx, hb, hml, hown, hz⟩ (f_MD_slot l dC dI h0 b0 b1 b2 b3 b4 b5 b6 b7 b8 b9 b10 b11 b12 b13 b14 b15 b16 b17 kb0 kb1 kb2 kb3 kb4 kb5 kb6 kb7 kb8 kb9 kb10 kb11 mg n _ rn ro sp gp fx _ (x + (nI 1)) y (hm) (by omega) (hg) (hG) (hE)) (cwV 2 hz (z_gV wd_797 wd_709 wd_710 wd_37 wd_711) rfl rfl rfl (by decide +kernel) ⟨Nat.le_of_ble_eq_true rfl, Nat.le_of_ble_eq_true rfl⟩) (zr_preV hK (hP.sub [0, 1, 2, 3, 4, 5, 6, 7, 8, 9, 10, 11, 12] rfl) (va_recv (q0 := 0) hK hP (q := (RMD, TMD, 26)) rfl rfl) [0, 1, 2, 3, 4, 5, 6, 7, 8, 9, 10, 11] rfl z_true (fun _ _ _ => trivial)) rfl rfl hl.1 rfl (lv_room (Nat.le_of_ble_eq_true rfl)) dMD_edge_54 ⟨Nat.le_of_ble_eq_true rfl, Nat.le_of_ble_eq_true rfl⟩) (fun r2 h_r2 => ?_)
              have h_r2 : zFst n (zMt mm n (x + (nI 1)) y) r2 := h_r2
              exact J57 _ (by rw [if_pos h_f, if_pos h_f]; exact h_r2)
            · refine lv_aload_n hx hb dMD_edge_38 rfl (lv_at hl 1 rfl) ?_
              refine lv_iload_n hx hb dMD_edge_39 rfl (lv_at hl 2 rfl) ?_
              refine lv_iload_n hx hb dMD_edge_40 rfl (lv_at hl 3 rfl) ?_
              refine lv_iconst (v := nI 1) hx hb dMD_edge_41 (by decide) ?_
              refine lv_iadd hx hb dMD_edge_42 ?_
              refine vp_callSi (W.runV (As := [.int x, .int (y + (nI 1))]) (rest := []) ⟨hx, hb, hml, hown, hz⟩ (f_MD_slot l dC dI h0 b0 b1 b2 b3 b4 b5 b6 b7 b8 b9 b10 b11 b12 b13 b14 b15 b16 b17 kb0 kb1 kb2 kb3 kb4 kb5 kb6 kb7 kb8 kb9 kb10 kb11 mg n _ rn ro sp gp fx _ x (y + (nI 1)) (hm) (by omega) (hg) (hG) (hE)) (cwV 2 hz (z_gV wd_797 wd_709 wd_710 wd_37 wd_711) rfl rfl rfl (by decide +kernel) ⟨Nat.le_of_ble_eq_true rfl, Nat.le_of_ble_eq_true rfl⟩) (zr_preV hK (hP.sub [0, 1, 2, 3, 4, 5, 6, 7, 8, 9, 10, 11, 12] rfl) (va_recv (q0 := 0) hK hP (q := (RMD, TMD, 26)) rfl rfl) [0, 1, 2, 3, 4, 5, 6, 7, 8, 9, 10, 11] rfl z_true (fun _ _ _ => trivial)) rfl rfl hl.1 rfl (lv_room (Nat.le_of_ble_eq_true rfl)) dMD_edge_43 ⟨Nat.le_of_ble_eq_true rfl, Nat.le_of_ble_eq_true rfl⟩) (fun r3 h_r3 => ?_)
              have h_r3 : zFst n (zMt mm n x (y + (nI 1))) r3 := h_r3
              refine lv_goto (tgt := 57) hx hb dMD_edge_46 rfl ?_
              exact J57 _ (by rw [if_neg h_f, if_neg h_f]; exact h_r3)
        · have h12 := z_nlt h12
          refine lv_iconst (v := (-1)) hx hb dMD_edge_24 (by decide) ?_
          subst hQ
          exact zp_iret hx hb hr hlocks (Or.inl ⟨by omega, rfl⟩) dMD_edge_25
