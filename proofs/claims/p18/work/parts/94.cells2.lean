set_option maxHeartbeats 4000000 in
set_option maxRecDepth 100000 in
theorem g_MD_cell (l : Launch) (dC : Nat → ClassId) (dI : Nat → Nat → Nat) (h0 : Nat) (b0 : Nat) (b1 : Nat) (b2 : Nat) (b3 : Nat) (b4 : Nat) (b5 : Nat) (b6 : Nat) (b7 : Nat) (b8 : Nat) (b9 : Nat) (b10 : Nat) (b11 : Nat) (b12 : Nat) (b13 : Nat) (b14 : Nat) (b15 : Nat) (b16 : Nat) (b17 : Nat) (kb0 : ClassId) (kb1 : ClassId) (kb2 : ClassId) (kb3 : ClassId) (kb4 : ClassId) (kb5 : ClassId) (kb6 : ClassId) (kb7 : ClassId) (kb8 : ClassId) (kb9 : ClassId) (kb10 : ClassId) (kb11 : ClassId) (mg : Nat) (n : Nat) (rg : Nat) (rn : Nat) (ro : Nat) (sp : Nat) (gp : Nat) (fx : Nat) (mm : Nat → Nat → Nat) (a : Int32) (b : Int32) (c1 : Int32) (d1 : Int32) (e1 : Int32) (hm : ∀ a k, mm a k ≤ 1000) (hn : n ≤ 40) (hg : 1 ≤ mg ∧ mg ≤ 8 ∧ rg ≤ 8 ∧ rn ≤ 1000 ∧ ro ≤ 1000) (hG : ∀ k, k < n → mm 6 k < 8) (hE : ∀ k, k < n → mm 3 k ≤ zEn mm (mm 6 k) n) (hro : ro ≤ 12) : zw_Mi (S := (Nat) × (Nat) × (Nat → Nat → Nat)) l yMD_cell wMD_cell ({ frames := 1, cells := 0, slots := 0, locals := 24 }) [.ref h0, .int a, .int b, .int c1, .int d1, .int e1] (dC, dI) vwCl [zob h0 6 [.int (nI mg), .ref b0, .ref b1, .int (nI n), .ref b2, .ref b3, .ref b4, .ref b5, .ref b6, .ref b7, .ref b8, .ref b9, .ref b10, .ref b11, .int (nI rg - nI 1), .int (nI rn), .int (nI ro), .int (nI sp), .int (nI gp), .int (nI fx), .ref b12, .ref b13, .ref b14, .ref b15, .ref b16, .ref b17], zar b0 kb0 8 (fun j => nI (mm 0 j)), zar b1 kb1 8 (fun j => nI (mm 1 j)), zar b2 kb2 40 (fun j => nI (mm 2 j)), zar b3 kb3 40 (fun j => nI (mm 3 j)), zar b4 kb4 40 (fun j => nI (mm 4 j)), zar b5 kb5 40 (fun j => nI (mm 5 j)), zar b6 kb6 40 (fun j => nI (mm 6 j)), zar b7 kb7 40 (fun j => nI (mm 7 j)), zar b8 kb8 40 (fun j => nI (mm 8 j)), zar b9 kb9 40 (fun j => nI (mm 9 j)), zar b10 kb10 40 (fun j => nI (mm 10 j)), zar b11 kb11 40 (fun j => nI (mm 11 j))] [(kb0, .int), (kb1, .int), (kb2, .int), (kb3, .int), (kb4, .int), (kb5, .int), (kb6, .int), (kb7, .int), (kb8, .int), (kb9, .int), (kb10, .int), (kb11, .int)] (fun _ _ => True) (fun r u => match u with | (n2, ro2, m2) => zmCf mm n rg mg rn ro a b c1 d1 e1 r n2 ro2 m2) (fun u => match u with | (n2, ro2, m2) => [zob h0 6 [.int (nI mg), .ref b0, .ref b1, .int (nI n2), .ref b2, .ref b3, .ref b4, .ref b5, .ref b6, .ref b7, .ref b8, .ref b9, .ref b10, .ref b11, .int (nI rg - nI 1), .int (nI rn), .int (nI ro2), .int (nI sp), .int (nI gp), .int (nI fx), .ref b12, .ref b13, .ref b14, .ref b15, .ref b16, .ref b17], zar b0 kb0 8 (fun j => nI (m2 0 j)), zar b1 kb1 8 (fun j => nI (m2 1 j)), zar b2 kb2 40 (fun j => nI (m2 2 j)), zar b3 kb3 40 (fun j => nI (m2 3 j)), zar b4 kb4 40 (fun j => nI (m2 4 j)), zar b5 kb5 40 (fun j => nI (m2 5 j)), zar b6 kb6 40 (fun j => nI (m2 6 j)), zar b7 kb7 40 (fun j => nI (m2 7 j)), zar b8 kb8 40 (fun j => nI (m2 8 j)), zar b9 kb9 40 (fun j => nI (m2 9 j)), zar b10 kb10 40 (fun j => nI (m2 10 j)), zar b11 kb11 40 (fun j => nI (m2 11 j))]) (fun u => match u with | (n2, ro2, m2) => []) 0 0 := by
  refine zw_headi (cc := cMD_cell) (maxL := 9) (ret := (some .int)) (by decide +kernel) rfl (Nat.le_of_ble_eq_true rfl) ?_
  intro p e s m below meth c ls A F hA hP hK hD hS hX hl
  obtain ⟨hx, hb, hml, hr, hlocks, hown, hts⟩ := F
  have hown : s.vm.findClass "SpannedCellsModel" = some m.cls := hown
  have hz : ∀ w9 ∈ zT, w9.before [.ref h0, .int a, .int b, .int c1, .int d1, .int e1].toArray s = true := fun w9 h => hts w9 (List.mem_cons_of_mem _ h)
  have hl : lv_has ls 9 [(0, .ref h0), (1, .int a), (2, .int b), (3, .int c1), (4, .int d1), (5, .int e1)] := hl
  refine z_q (fun Q hQ => ?_)
  refine z_join (fun v1 : Int32 => z_yn v1 (zGood a b c1 d1 e1)) (fun v1 => W p l e ({ frames := 1, cells := 0, slots := 0, locals := 24 }) s m [.ref h0, .int a, .int b, .int c1, .int d1, .int e1].toArray below meth c s.heap [] 0 0 Q (F0 m 56 ls (.int v1 :: []))) (fun v1 hv1 => ?_) (fun J56 => ?_)
  · refine lv_istore hx hb dMD_cell_56 hl (Nat.le_of_ble_eq_true rfl) rfl (fun ls hl => ?_)
    have hl : lv_has ls 9 [(6, .int v1), (0, .ref h0), (1, .int a), (2, .int b), (3, .int c1), (4, .int d1), (5, .int e1)] := hl
    refine lv_iload hx hb dMD_cell_58 (lv_at hl 0 rfl) ?_
    refine lv_if_eq (tgt := 85) hx hb dMD_cell_60 rfl (fun h_g => ?_) (fun h_g => ?_)
    · have h_g := z_yF hv1 h_g
      refine lv_iconst (v := (-1)) hx hb dMD_cell_85 (by decide) ?_
      subst hQ
      exact zw_iret (D := (dC, dI)) (cl := vwCl) (A := A) (n, ro, mm) hx hb hr hlocks (Or.inl ⟨fun h9 => h_g h9.1, rfl, rfl, rfl, rfl⟩) (hP.sub [0, 1, 2, 3, 4, 5, 6, 7, 8, 9, 10, 11, 12] rfl) (hK.sub [] rfl) (hD.sub [0, 1, 2, 3, 4, 5, 6, 7, 8, 9, 10, 11, 12] (by decide) rfl) hS dMD_cell_86
    · have h_g := z_yT hv1 h_g
      have h_g2 := h_g
      have h_g3 : ((1 ≤ a.toInt ∧ a.toInt ≤ 6) ∧ (0 ≤ b.toInt ∧ b.toInt ≤ 6)) ∧ ((0 ≤ c1.toInt ∧ c1.toInt ≤ d1.toInt) ∧ d1.toInt ≤ 1000) ∧ (0 ≤ e1.toInt ∧ e1.toInt ≤ 1000) := h_g
      obtain ⟨a_v, hz_a, rfl⟩ := z_ofIn (c := a) (n := 1001) (by omega) (by omega) (by omega)
      obtain ⟨b_v, hz_b, rfl⟩ := z_ofIn (c := b) (n := 1001) (by omega) (by omega) (by omega)
      obtain ⟨c1_v, hz_c1, rfl⟩ := z_ofIn (c := c1) (n := 1001) (by omega) (by omega) (by omega)
      obtain ⟨d1_v, hz_d1, rfl⟩ := z_ofIn (c := d1) (n := 1001) (by omega) (by omega) (by omega)
      obtain ⟨e1_v, hz_e1, rfl⟩ := z_ofIn (c := e1) (n := 1001) (by omega) (by omega) (by omega)
      have tz_a := nI_toInt (n := a_v) (by omega)
      have tz_b := nI_toInt (n := b_v) (by omega)
      have tz_c1 := nI_toInt (n := c1_v) (by omega)
      have tz_d1 := nI_toInt (n := d1_v) (by omega)
      have tz_e1 := nI_toInt (n := e1_v) (by omega)
      refine lv_aload_n hx hb dMD_cell_63 rfl (lv_at hl 1 rfl) ?_
      refine va_get (D := (dC, dI)) (ci := 6) (v := .int (nI rg - nI 1)) (C := RMD) (T := TMD) (N := 26) hx hb hz in_MD hown hK hP 0 rfl rfl 14 (by decide) (hz _ wd_598) (fun _ h9 => h9) rfl dMD_cell_64 ?_
      refine lv_aload_n hx hb dMD_cell_67 rfl (lv_at hl 1 rfl) ?_
      refine va_get (D := (dC, dI)) (ci := 6) (v := .int (nI mg)) (C := RMD) (T := TMD) (N := 26) hx hb hz in_MD hown hK hP 0 rfl rfl 0 (by decide) (hz _ wd_584) (fun _ h9 => h9) rfl dMD_cell_68 ?_
      refine lv_iconst (v := nI 1) hx hb dMD_cell_71 (by decide) ?_
      refine lv_isub hx hb dMD_cell_72 ?_
      have t2 := pk_sub_toInt (a := rg) (b := 1) (by omega) (by omega)
      have t3 := pk_sub_toInt (a := mg) (b := 1) (by omega) (by omega)
      refine lv_icmp_ne (tgt := 85) hx hb dMD_cell_73 rfl (fun h_w => ?_) (fun h_w => ?_)
      · have h_w := z_ne h_w
        refine lv_iconst (v := (-1)) hx hb dMD_cell_85 (by decide) ?_
        subst hQ
        exact zw_iret (D := (dC, dI)) (cl := vwCl) (A := A) (n, ro, mm) hx hb hr hlocks (Or.inl ⟨fun h9 => by have := h9.2.1; omega, rfl, rfl, rfl, rfl⟩) (hP.sub [0, 1, 2, 3, 4, 5, 6, 7, 8, 9, 10, 11, 12] rfl) (hK.sub [] rfl) (hD.sub [0, 1, 2, 3, 4, 5, 6, 7, 8, 9, 10, 11, 12] (by decide) rfl) hS dMD_cell_86
      · have h_w := z_eq h_w
        refine lv_aload_n hx hb dMD_cell_76 rfl (lv_at hl 1 rfl) ?_
        refine va_get (D := (dC, dI)) (ci := 6) (v := .int (nI n)) (C := RMD) (T := TMD) (N := 26) hx hb hz in_MD hown hK hP 0 rfl rfl 3 (by decide) (hz _ wd_587) (fun _ h9 => h9) rfl dMD_cell_77 ?_
        refine lv_bipush (v := nI 40) hx hb dMD_cell_80 (by decide) ?_
        have t5 := nI_toInt (n := n) (by omega)
        have t6 := nI_toInt (n := 40) (by omega)
        refine lv_icmp_ne (tgt := 87) hx hb dMD_cell_82 rfl (fun h_n => ?_) (fun h_n => ?_)
        · have h_n := z_ne h_n
          refine lv_aload_n hx hb dMD_cell_87 rfl (lv_at hl 1 rfl) ?_
          refine va_get (D := (dC, dI)) (ci := 6) (v := .int (nI ro)) (C := RMD) (T := TMD) (N := 26) hx hb hz in_MD hown hK hP 0 rfl rfl 16 (by decide) (hz _ wd_600) (fun _ h9 => h9) rfl dMD_cell_88 ?_
          refine lv_istore hx hb dMD_cell_91 hl (Nat.le_of_ble_eq_true rfl) rfl (fun ls hl => ?_)
          have hl : lv_has ls 9 [(7, .int (nI ro)), (6, .int v1), (0, .ref h0), (1, .int (nI a_v)), (2, .int (nI b_v)), (3, .int (nI c1_v)), (4, .int (nI d1_v)), (5, .int (nI e1_v))] := hl
          refine zl_up (σ := Unit) 12 (fun i x9 ls => lv_has ls 9 [(7, .int (nI i)), (6, .int v1), (5, .int (nI e1_v)), (4, .int (nI d1_v)), (3, .int (nI c1_v)), (2, .int (nI b_v)), (1, .int (nI a_v)), (0, .ref h0)] ∧ (ro ≤ i ∧ ∀ j, ro ≤ j → j < i → ∃ k, k < n ∧ zIt mm rg rn j k)) ?_ ?_ ro (hro) () ls ⟨lv_sub hl [0, 1, 7, 6, 5, 4, 3, 2] rfl, Nat.le_refl _, fun j h1 h2 => absurd h2 (by omega)⟩
          · intro x9 ls hI
            obtain ⟨hl, hxr, hxI⟩ := hI
            have hl : lv_has ls 9 [(7, .int (nI 12)), (6, .int v1), (5, .int (nI e1_v)), (4, .int (nI d1_v)), (3, .int (nI c1_v)), (2, .int (nI b_v)), (1, .int (nI a_v)), (0, .ref h0)] := hl
            refine lv_iload hx hb dMD_cell_93 (lv_at hl 0 rfl) ?_
            refine lv_bipush (v := nI 12) hx hb dMD_cell_95 (by decide) ?_
            refine lv_icmp_ge (tgt := 118) hx hb dMD_cell_97 rfl (fun _ => ?_) (fun h => absurd (by decide) h)
            refine lv_iload hx hb dMD_cell_118 (lv_at hl 0 rfl) ?_
            refine lv_iload_n hx hb dMD_cell_120 rfl (lv_at hl 6 rfl) ?_
            refine lv_iadd hx hb dMD_cell_121 ?_
            refine lv_topi (fun x8 e9 => ?_)
            have e9 : x8 = nI (12 + a_v) := e9.trans (nI_add _ _)
            subst e9
            refine lv_bipush (v := nI 12) hx hb dMD_cell_122 (by decide) ?_
            have t10 := nI_toInt (n := 12 + a_v) (by omega)
            have t11 := nI_toInt (n := 12) (by omega)
            refine lv_icmp_gt (tgt := 138) hx hb dMD_cell_124 rfl (fun h12 => ?_) (fun h12 => ?_)
            · have h12 := z_lt h12
              refine lv_iconst (v := (-1)) hx hb dMD_cell_138 (by decide) ?_
              subst hQ
              exact zw_iret (D := (dC, dI)) (cl := vwCl) (A := A) (n, ro, mm) hx hb hr hlocks (Or.inr ⟨⟨h_g2, by omega, by omega⟩, 12, a_v, b_v, c1_v, d1_v, e1_v, ⟨by omega, by omega, by omega, by omega, by omega⟩, ⟨by omega, by omega, hxI, fun h9 => absurd h9 (by omega)⟩, rfl, rfl, rfl, rfl, rfl, Or.inl ⟨by omega, rfl, rfl, rfl, rfl⟩⟩) (hP.sub [0, 1, 2, 3, 4, 5, 6, 7, 8, 9, 10, 11, 12] rfl) (hK.sub [] rfl) (hD.sub [0, 1, 2, 3, 4, 5, 6, 7, 8, 9, 10, 11, 12] (by decide) rfl) hS dMD_cell_139
            · have h12 := z_nlt h12
              refine lv_aload_n hx hb dMD_cell_127 rfl (lv_at hl 7 rfl) ?_
              refine va_get (D := (dC, dI)) (ci := 6) (v := .int (nI rn)) (C := RMD) (T := TMD) (N := 26) hx hb hz in_MD hown hK hP 0 rfl rfl 15 (by decide) (hz _ wd_599) (fun _ h9 => h9) rfl dMD_cell_128 ?_
              refine lv_iload_n hx hb dMD_cell_131 rfl (lv_at hl 5 rfl) ?_
              refine lv_iadd hx hb dMD_cell_132 ?_
              refine lv_topi (fun x13 e14 => ?_)
              have e14 : x13 = nI (rn + b_v) := e14.trans (nI_add _ _)
              subst e14
              refine lv_bipush (v := nI 12) hx hb dMD_cell_133 (by decide) ?_
              have t15 := nI_toInt (n := rn + b_v) (by omega)
              have t16 := nI_toInt (n := 12) (by omega)
              refine lv_icmp_le (tgt := 140) hx hb dMD_cell_135 rfl (fun h17 => ?_) (fun h17 => ?_)
              · have h17 := z_le h17
                refine lv_aload_n hx hb dMD_cell_140 rfl (lv_at hl 7 rfl) ?_
                refine va_get (D := (dC, dI)) (ci := 6) (v := .int (nI n)) (C := RMD) (T := TMD) (N := 26) hx hb hz in_MD hown hK hP 0 rfl rfl 3 (by decide) (hz _ wd_587) (fun _ h9 => h9) rfl dMD_cell_141 ?_
                refine lv_istore hx hb dMD_cell_144 hl (Nat.le_of_ble_eq_true rfl) rfl (fun ls hl => ?_)
                have hl : lv_has ls 9 [(8, .int (nI n)), (7, .int (nI 12)), (6, .int v1), (5, .int (nI e1_v)), (4, .int (nI d1_v)), (3, .int (nI c1_v)), (2, .int (nI b_v)), (1, .int (nI a_v)), (0, .ref h0)] := hl
                refine lv_aload_n hx hb dMD_cell_146 rfl (lv_at hl 8 rfl) ?_
                refine va_get (D := (dC, dI)) (ci := 6) (v := .ref b2) (C := RMD) (T := TMD) (N := 26) hx hb hz in_MD hown hK hP 0 rfl rfl 4 (by decide) (hz _ wd_588) (fun _ h9 => h9) rfl dMD_cell_147 ?_
                refine lv_iload hx hb dMD_cell_150 (lv_at hl 0 rfl) ?_
                refine lv_iload hx hb dMD_cell_152 (lv_at hl 1 rfl) ?_
                refine va_iast hx hb hK hP hD hS 3 2 rfl rfl (vp_in_nI (by omega) (by omega)) dMD_cell_154 (fun H locs hP hD hS => ?_)
                have e_u := z_upd (f := mm 2) (k := n) (v := 12) (by omega)
                have hP : va_P (dC, dI) vwCl [zob h0 6 [.int (nI mg), .ref b0, .ref b1, .int (nI n), .ref b2, .ref b3, .ref b4, .ref b5, .ref b6, .ref b7, .ref b8, .ref b9, .ref b10, .ref b11, .int (nI rg - nI 1), .int (nI rn), .int (nI ro), .int (nI sp), .int (nI gp), .int (nI fx), .ref b12, .ref b13, .ref b14, .ref b15, .ref b16, .ref b17], zar b0 kb0 8 (fun j => nI (mm 0 j)), zar b1 kb1 8 (fun j => nI (mm 1 j)), zar b2 kb2 40 (fun j => nI (va_up (mm 2) n 12 j)), zar b3 kb3 40 (fun j => nI (mm 3 j)), zar b4 kb4 40 (fun j => nI (mm 4 j)), zar b5 kb5 40 (fun j => nI (mm 5 j)), zar b6 kb6 40 (fun j => nI (mm 6 j)), zar b7 kb7 40 (fun j => nI (mm 7 j)), zar b8 kb8 40 (fun j => nI (mm 8 j)), zar b9 kb9 40 (fun j => nI (mm 9 j)), zar b10 kb10 40 (fun j => nI (mm 10 j)), zar b11 kb11 40 (fun j => nI (mm 11 j))] H := by rw [← e_u]; exact hP
                have hD : va_D A [zob h0 6 [.int (nI mg), .ref b0, .ref b1, .int (nI n), .ref b2, .ref b3, .ref b4, .ref b5, .ref b6, .ref b7, .ref b8, .ref b9, .ref b10, .ref b11, .int (nI rg - nI 1), .int (nI rn), .int (nI ro), .int (nI sp), .int (nI gp), .int (nI fx), .ref b12, .ref b13, .ref b14, .ref b15, .ref b16, .ref b17], zar b0 kb0 8 (fun j => nI (mm 0 j)), zar b1 kb1 8 (fun j => nI (mm 1 j)), zar b2 kb2 40 (fun j => nI (va_up (mm 2) n 12 j)), zar b3 kb3 40 (fun j => nI (mm 3 j)), zar b4 kb4 40 (fun j => nI (mm 4 j)), zar b5 kb5 40 (fun j => nI (mm 5 j)), zar b6 kb6 40 (fun j => nI (mm 6 j)), zar b7 kb7 40 (fun j => nI (mm 7 j)), zar b8 kb8 40 (fun j => nI (mm 8 j)), zar b9 kb9 40 (fun j => nI (mm 9 j)), zar b10 kb10 40 (fun j => nI (mm 10 j)), zar b11 kb11 40 (fun j => nI (mm 11 j))] := by rw [← e_u]; exact hD
                refine lv_aload_n hx hb dMD_cell_155 rfl (lv_at hl 8 rfl) ?_
                refine va_get (D := (dC, dI)) (ci := 6) (v := .ref b3) (C := RMD) (T := TMD) (N := 26) hx hb hz in_MD hown hK hP 0 rfl rfl 5 (by decide) (hz _ wd_589) (fun _ h9 => h9) rfl dMD_cell_156 ?_
                refine lv_iload hx hb dMD_cell_159 (lv_at hl 0 rfl) ?_
                refine lv_aload_n hx hb dMD_cell_161 rfl (lv_at hl 8 rfl) ?_
                refine va_get (D := (dC, dI)) (ci := 6) (v := .int (nI rn)) (C := RMD) (T := TMD) (N := 26) hx hb hz in_MD hown hK hP 0 rfl rfl 15 (by decide) (hz _ wd_599) (fun _ h9 => h9) rfl dMD_cell_162 ?_
                refine va_iast hx hb hK hP hD hS 4 3 rfl rfl (vp_in_nI (by omega) (by omega)) dMD_cell_165 (fun H locs hP hD hS => ?_)
                have e_u := z_upd (f := mm 3) (k := n) (v := rn) (by omega)
                have hP : va_P (dC, dI) vwCl [zob h0 6 [.int (nI mg), .ref b0, .ref b1, .int (nI n), .ref b2, .ref b3, .ref b4, .ref b5, .ref b6, .ref b7, .ref b8, .ref b9, .ref b10, .ref b11, .int (nI rg - nI 1), .int (nI rn), .int (nI ro), .int (nI sp), .int (nI gp), .int (nI fx), .ref b12, .ref b13, .ref b14, .ref b15, .ref b16, .ref b17], zar b0 kb0 8 (fun j => nI (mm 0 j)), zar b1 kb1 8 (fun j => nI (mm 1 j)), zar b2 kb2 40 (fun j => nI (va_up (mm 2) n 12 j)), zar b3 kb3 40 (fun j => nI (va_up (mm 3) n rn j)), zar b4 kb4 40 (fun j => nI (mm 4 j)), zar b5 kb5 40 (fun j => nI (mm 5 j)), zar b6 kb6 40 (fun j => nI (mm 6 j)), zar b7 kb7 40 (fun j => nI (mm 7 j)), zar b8 kb8 40 (fun j => nI (mm 8 j)), zar b9 kb9 40 (fun j => nI (mm 9 j)), zar b10 kb10 40 (fun j => nI (mm 10 j)), zar b11 kb11 40 (fun j => nI (mm 11 j))] H := by rw [← e_u]; exact hP
                have hD : va_D A [zob h0 6 [.int (nI mg), .ref b0, .ref b1, .int (nI n), .ref b2, .ref b3, .ref b4, .ref b5, .ref b6, .ref b7, .ref b8, .ref b9, .ref b10, .ref b11, .int (nI rg - nI 1), .int (nI rn), .int (nI ro), .int (nI sp), .int (nI gp), .int (nI fx), .ref b12, .ref b13, .ref b14, .ref b15, .ref b16, .ref b17], zar b0 kb0 8 (fun j => nI (mm 0 j)), zar b1 kb1 8 (fun j => nI (mm 1 j)), zar b2 kb2 40 (fun j => nI (va_up (mm 2) n 12 j)), zar b3 kb3 40 (fun j => nI (va_up (mm 3) n rn j)), zar b4 kb4 40 (fun j => nI (mm 4 j)), zar b5 kb5 40 (fun j => nI (mm 5 j)), zar b6 kb6 40 (fun j => nI (mm 6 j)), zar b7 kb7 40 (fun j => nI (mm 7 j)), zar b8 kb8 40 (fun j => nI (mm 8 j)), zar b9 kb9 40 (fun j => nI (mm 9 j)), zar b10 kb10 40 (fun j => nI (mm 10 j)), zar b11 kb11 40 (fun j => nI (mm 11 j))] := by rw [← e_u]; exact hD
                refine lv_aload_n hx hb dMD_cell_166 rfl (lv_at hl 8 rfl) ?_
                refine va_get (D := (dC, dI)) (ci := 6) (v := .ref b4) (C := RMD) (T := TMD) (N := 26) hx hb hz in_MD hown hK hP 0 rfl rfl 6 (by decide) (hz _ wd_590) (fun _ h9 => h9) rfl dMD_cell_167 ?_
                refine lv_iload hx hb dMD_cell_170 (lv_at hl 0 rfl) ?_
                refine lv_iload_n hx hb dMD_cell_172 rfl (lv_at hl 7 rfl) ?_
                refine va_iast hx hb hK hP hD hS 5 4 rfl rfl (vp_in_nI (by omega) (by omega)) dMD_cell_173 (fun H locs hP hD hS => ?_)
                have e_u := z_upd (f := mm 4) (k := n) (v := a_v) (by omega)
                have hP : va_P (dC, dI) vwCl [zob h0 6 [.int (nI mg), .ref b0, .ref b1, .int (nI n), .ref b2, .ref b3, .ref b4, .ref b5, .ref b6, .ref b7, .ref b8, .ref b9, .ref b10, .ref b11, .int (nI rg - nI 1), .int (nI rn), .int (nI ro), .int (nI sp), .int (nI gp), .int (nI fx), .ref b12, .ref b13, .ref b14, .ref b15, .ref b16, .ref b17], zar b0 kb0 8 (fun j => nI (mm 0 j)), zar b1 kb1 8 (fun j => nI (mm 1 j)), zar b2 kb2 40 (fun j => nI (va_up (mm 2) n 12 j)), zar b3 kb3 40 (fun j => nI (va_up (mm 3) n rn j)), zar b4 kb4 40 (fun j => nI (va_up (mm 4) n a_v j)), zar b5 kb5 40 (fun j => nI (mm 5 j)), zar b6 kb6 40 (fun j => nI (mm 6 j)), zar b7 kb7 40 (fun j => nI (mm 7 j)), zar b8 kb8 40 (fun j => nI (mm 8 j)), zar b9 kb9 40 (fun j => nI (mm 9 j)), zar b10 kb10 40 (fun j => nI (mm 10 j)), zar b11 kb11 40 (fun j => nI (mm 11 j))] H := by rw [← e_u]; exact hP
                have hD : va_D A [zob h0 6 [.int (nI mg), .ref b0, .ref b1, .int (nI n), .ref b2, .ref b3, .ref b4, .ref b5, .ref b6, .ref b7, .ref b8, .ref b9, .ref b10, .ref b11, .int (nI rg - nI 1), .int (nI rn), .int (nI ro), .int (nI sp), .int (nI gp), .int (nI fx), .ref b12, .ref b13, .ref b14, .ref b15, .ref b16, .ref b17], zar b0 kb0 8 (fun j => nI (mm 0 j)), zar b1 kb1 8 (fun j => nI (mm 1 j)), zar b2 kb2 40 (fun j => nI (va_up (mm 2) n 12 j)), zar b3 kb3 40 (fun j => nI (va_up (mm 3) n rn j)), zar b4 kb4 40 (fun j => nI (va_up (mm 4) n a_v j)), zar b5 kb5 40 (fun j => nI (mm 5 j)), zar b6 kb6 40 (fun j => nI (mm 6 j)), zar b7 kb7 40 (fun j => nI (mm 7 j)), zar b8 kb8 40 (fun j => nI (mm 8 j)), zar b9 kb9 40 (fun j => nI (mm 9 j)), zar b10 kb10 40 (fun j => nI (mm 10 j)), zar b11 kb11 40 (fun j => nI (mm 11 j))] := by rw [← e_u]; exact hD
                refine lv_aload_n hx hb dMD_cell_174 rfl (lv_at hl 8 rfl) ?_
                refine va_get (D := (dC, dI)) (ci := 6) (v := .ref b5) (C := RMD) (T := TMD) (N := 26) hx hb hz in_MD hown hK hP 0 rfl rfl 7 (by decide) (hz _ wd_591) (fun _ h9 => h9) rfl dMD_cell_175 ?_
                refine lv_iload hx hb dMD_cell_178 (lv_at hl 0 rfl) ?_
                refine lv_iload_n hx hb dMD_cell_180 rfl (lv_at hl 6 rfl) ?_
                refine va_iast hx hb hK hP hD hS 6 5 rfl rfl (vp_in_nI (by omega) (by omega)) dMD_cell_181 (fun H locs hP hD hS => ?_)
                have e_u := z_upd (f := mm 5) (k := n) (v := b_v) (by omega)
                have hP : va_P (dC, dI) vwCl [zob h0 6 [.int (nI mg), .ref b0, .ref b1, .int (nI n), .ref b2, .ref b3, .ref b4, .ref b5, .ref b6, .ref b7, .ref b8, .ref b9, .ref b10, .ref b11, .int (nI rg - nI 1), .int (nI rn), .int (nI ro), .int (nI sp), .int (nI gp), .int (nI fx), .ref b12, .ref b13, .ref b14, .ref b15, .ref b16, .ref b17], zar b0 kb0 8 (fun j => nI (mm 0 j)), zar b1 kb1 8 (fun j => nI (mm 1 j)), zar b2 kb2 40 (fun j => nI (va_up (mm 2) n 12 j)), zar b3 kb3 40 (fun j => nI (va_up (mm 3) n rn j)), zar b4 kb4 40 (fun j => nI (va_up (mm 4) n a_v j)), zar b5 kb5 40 (fun j => nI (va_up (mm 5) n b_v j)), zar b6 kb6 40 (fun j => nI (mm 6 j)), zar b7 kb7 40 (fun j => nI (mm 7 j)), zar b8 kb8 40 (fun j => nI (mm 8 j)), zar b9 kb9 40 (fun j => nI (mm 9 j)), zar b10 kb10 40 (fun j => nI (mm 10 j)), zar b11 kb11 40 (fun j => nI (mm 11 j))] H := by rw [← e_u]; exact hP
                have hD : va_D A [zob h0 6 [.int (nI mg), .ref b0, .ref b1, .int (nI n), .ref b2, .ref b3, .ref b4, .ref b5, .ref b6, .ref b7, .ref b8, .ref b9, .ref b10, .ref b11, .int (nI rg - nI 1), .int (nI rn), .int (nI ro), .int (nI sp), .int (nI gp), .int (nI fx), .ref b12, .ref b13, .ref b14, .ref b15, .ref b16, .ref b17], zar b0 kb0 8 (fun j => nI (mm 0 j)), zar b1 kb1 8 (fun j => nI (mm 1 j)), zar b2 kb2 40 (fun j => nI (va_up (mm 2) n 12 j)), zar b3 kb3 40 (fun j => nI (va_up (mm 3) n rn j)), zar b4 kb4 40 (fun j => nI (va_up (mm 4) n a_v j)), zar b5 kb5 40 (fun j => nI (va_up (mm 5) n b_v j)), zar b6 kb6 40 (fun j => nI (mm 6 j)), zar b7 kb7 40 (fun j => nI (mm 7 j)), zar b8 kb8 40 (fun j => nI (mm 8 j)), zar b9 kb9 40 (fun j => nI (mm 9 j)), zar b10 kb10 40 (fun j => nI (mm 10 j)), zar b11 kb11 40 (fun j => nI (mm 11 j))] := by rw [← e_u]; exact hD
                refine lv_aload_n hx hb dMD_cell_182 rfl (lv_at hl 8 rfl) ?_
                refine va_get (D := (dC, dI)) (ci := 6) (v := .ref b6) (C := RMD) (T := TMD) (N := 26) hx hb hz in_MD hown hK hP 0 rfl rfl 8 (by decide) (hz _ wd_592) (fun _ h9 => h9) rfl dMD_cell_183 ?_
                refine lv_iload hx hb dMD_cell_186 (lv_at hl 0 rfl) ?_
                refine lv_aload_n hx hb dMD_cell_188 rfl (lv_at hl 8 rfl) ?_
                refine va_get (D := (dC, dI)) (ci := 6) (v := .int (nI rg - nI 1)) (C := RMD) (T := TMD) (N := 26) hx hb hz in_MD hown hK hP 0 rfl rfl 14 (by decide) (hz _ wd_598) (fun _ h9 => h9) rfl dMD_cell_189 ?_
                refine lv_topi (fun x18 e19 => ?_)
                have e19 : x18 = nI (rg - 1) := e19.trans (pk_sub (by omega))
                subst e19
                refine va_iast hx hb hK hP hD hS 7 6 rfl rfl (vp_in_nI (by omega) (by omega)) dMD_cell_192 (fun H locs hP hD hS => ?_)
                have e_u := z_upd (f := mm 6) (k := n) (v := rg - 1) (by omega)
                have hP : va_P (dC, dI) vwCl [zob h0 6 [.int (nI mg), .ref b0, .ref b1, .int (nI n), .ref b2, .ref b3, .ref b4, .ref b5, .ref b6, .ref b7, .ref b8, .ref b9, .ref b10, .ref b11, .int (nI rg - nI 1), .int (nI rn), .int (nI ro), .int (nI sp), .int (nI gp), .int (nI fx), .ref b12, .ref b13, .ref b14, .ref b15, .ref b16, .ref b17], zar b0 kb0 8 (fun j => nI (mm 0 j)), zar b1 kb1 8 (fun j => nI (mm 1 j)), zar b2 kb2 40 (fun j => nI (va_up (mm 2) n 12 j)), zar b3 kb3 40 (fun j => nI (va_up (mm 3) n rn j)), zar b4 kb4 40 (fun j => nI (va_up (mm 4) n a_v j)), zar b5 kb5 40 (fun j => nI (va_up (mm 5) n b_v j)), zar b6 kb6 40 (fun j => nI (va_up (mm 6) n (rg - 1) j)), zar b7 kb7 40 (fun j => nI (mm 7 j)), zar b8 kb8 40 (fun j => nI (mm 8 j)), zar b9 kb9 40 (fun j => nI (mm 9 j)), zar b10 kb10 40 (fun j => nI (mm 10 j)), zar b11 kb11 40 (fun j => nI (mm 11 j))] H := by rw [← e_u]; exact hP
                have hD : va_D A [zob h0 6 [.int (nI mg), .ref b0, .ref b1, .int (nI n), .ref b2, .ref b3, .ref b4, .ref b5, .ref b6, .ref b7, .ref b8, .ref b9, .ref b10, .ref b11, .int (nI rg - nI 1), .int (nI rn), .int (nI ro), .int (nI sp), .int (nI gp), .int (nI fx), .ref b12, .ref b13, .ref b14, .ref b15, .ref b16, .ref b17], zar b0 kb0 8 (fun j => nI (mm 0 j)), zar b1 kb1 8 (fun j => nI (mm 1 j)), zar b2 kb2 40 (fun j => nI (va_up (mm 2) n 12 j)), zar b3 kb3 40 (fun j => nI (va_up (mm 3) n rn j)), zar b4 kb4 40 (fun j => nI (va_up (mm 4) n a_v j)), zar b5 kb5 40 (fun j => nI (va_up (mm 5) n b_v j)), zar b6 kb6 40 (fun j => nI (va_up (mm 6) n (rg - 1) j)), zar b7 kb7 40 (fun j => nI (mm 7 j)), zar b8 kb8 40 (fun j => nI (mm 8 j)), zar b9 kb9 40 (fun j => nI (mm 9 j)), zar b10 kb10 40 (fun j => nI (mm 10 j)), zar b11 kb11 40 (fun j => nI (mm 11 j))] := by rw [← e_u]; exact hD
                refine lv_aload_n hx hb dMD_cell_193 rfl (lv_at hl 8 rfl) ?_
                refine va_get (D := (dC, dI)) (ci := 6) (v := .ref b7) (C := RMD) (T := TMD) (N := 26) hx hb hz in_MD hown hK hP 0 rfl rfl 9 (by decide) (hz _ wd_593) (fun _ h9 => h9) rfl dMD_cell_194 ?_
                refine lv_iload hx hb dMD_cell_197 (lv_at hl 0 rfl) ?_
                refine lv_iload_n hx hb dMD_cell_199 rfl (lv_at hl 5 rfl) ?_
                refine va_iast hx hb hK hP hD hS 8 7 rfl rfl (vp_in_nI (by omega) (by omega)) dMD_cell_200 (fun H locs hP hD hS => ?_)
                have e_u := z_upd (f := mm 7) (k := n) (v := c1_v) (by omega)
                have hP : va_P (dC, dI) vwCl [zob h0 6 [.int (nI mg), .ref b0, .ref b1, .int (nI n), .ref b2, .ref b3, .ref b4, .ref b5, .ref b6, .ref b7, .ref b8, .ref b9, .ref b10, .ref b11, .int (nI rg - nI 1), .int (nI rn), .int (nI ro), .int (nI sp), .int (nI gp), .int (nI fx), .ref b12, .ref b13, .ref b14, .ref b15, .ref b16, .ref b17], zar b0 kb0 8 (fun j => nI (mm 0 j)), zar b1 kb1 8 (fun j => nI (mm 1 j)), zar b2 kb2 40 (fun j => nI (va_up (mm 2) n 12 j)), zar b3 kb3 40 (fun j => nI (va_up (mm 3) n rn j)), zar b4 kb4 40 (fun j => nI (va_up (mm 4) n a_v j)), zar b5 kb5 40 (fun j => nI (va_up (mm 5) n b_v j)), zar b6 kb6 40 (fun j => nI (va_up (mm 6) n (rg - 1) j)), zar b7 kb7 40 (fun j => nI (va_up (mm 7) n c1_v j)), zar b8 kb8 40 (fun j => nI (mm 8 j)), zar b9 kb9 40 (fun j => nI (mm 9 j)), zar b10 kb10 40 (fun j => nI (mm 10 j)), zar b11 kb11 40 (fun j => nI (mm 11 j))] H := by rw [← e_u]; exact hP
                have hD : va_D A [zob h0 6 [.int (nI mg), .ref b0, .ref b1, .int (nI n), .ref b2, .ref b3, .ref b4, .ref b5, .ref b6, .ref b7, .ref b8, .ref b9, .ref b10, .ref b11, .int (nI rg - nI 1), .int (nI rn), .int (nI ro), .int (nI sp), .int (nI gp), .int (nI fx), .ref b12, .ref b13, .ref b14, .ref b15, .ref b16, .ref b17], zar b0 kb0 8 (fun j => nI (mm 0 j)), zar b1 kb1 8 (fun j => nI (mm 1 j)), zar b2 kb2 40 (fun j => nI (va_up (mm 2) n 12 j)), zar b3 kb3 40 (fun j => nI (va_up (mm 3) n rn j)), zar b4 kb4 40 (fun j => nI (va_up (mm 4) n a_v j)), zar b5 kb5 40 (fun j => nI (va_up (mm 5) n b_v j)), zar b6 kb6 40 (fun j => nI (va_up (mm 6) n (rg - 1) j)), zar b7 kb7 40 (fun j => nI (va_up (mm 7) n c1_v j)), zar b8 kb8 40 (fun j => nI (mm 8 j)), zar b9 kb9 40 (fun j => nI (mm 9 j)), zar b10 kb10 40 (fun j => nI (mm 10 j)), zar b11 kb11 40 (fun j => nI (mm 11 j))] := by rw [← e_u]; exact hD
                refine lv_aload_n hx hb dMD_cell_201 rfl (lv_at hl 8 rfl) ?_
                refine va_get (D := (dC, dI)) (ci := 6) (v := .ref b8) (C := RMD) (T := TMD) (N := 26) hx hb hz in_MD hown hK hP 0 rfl rfl 10 (by decide) (hz _ wd_594) (fun _ h9 => h9) rfl dMD_cell_202 ?_
                refine lv_iload hx hb dMD_cell_205 (lv_at hl 0 rfl) ?_
                refine lv_iload hx hb dMD_cell_207 (lv_at hl 4 rfl) ?_
                refine va_iast hx hb hK hP hD hS 9 8 rfl rfl (vp_in_nI (by omega) (by omega)) dMD_cell_209 (fun H locs hP hD hS => ?_)
                have e_u := z_upd (f := mm 8) (k := n) (v := d1_v) (by omega)
                have hP : va_P (dC, dI) vwCl [zob h0 6 [.int (nI mg), .ref b0, .ref b1, .int (nI n), .ref b2, .ref b3, .ref b4, .ref b5, .ref b6, .ref b7, .ref b8, .ref b9, .ref b10, .ref b11, .int (nI rg - nI 1), .int (nI rn), .int (nI ro), .int (nI sp), .int (nI gp), .int (nI fx), .ref b12, .ref b13, .ref b14, .ref b15, .ref b16, .ref b17], zar b0 kb0 8 (fun j => nI (mm 0 j)), zar b1 kb1 8 (fun j => nI (mm 1 j)), zar b2 kb2 40 (fun j => nI (va_up (mm 2) n 12 j)), zar b3 kb3 40 (fun j => nI (va_up (mm 3) n rn j)), zar b4 kb4 40 (fun j => nI (va_up (mm 4) n a_v j)), zar b5 kb5 40 (fun j => nI (va_up (mm 5) n b_v j)), zar b6 kb6 40 (fun j => nI (va_up (mm 6) n (rg - 1) j)), zar b7 kb7 40 (fun j => nI (va_up (mm 7) n c1_v j)), zar b8 kb8 40 (fun j => nI (va_up (mm 8) n d1_v j)), zar b9 kb9 40 (fun j => nI (mm 9 j)), zar b10 kb10 40 (fun j => nI (mm 10 j)), zar b11 kb11 40 (fun j => nI (mm 11 j))] H := by rw [← e_u]; exact hP
                have hD : va_D A [zob h0 6 [.int (nI mg), .ref b0, .ref b1, .int (nI n), .ref b2, .ref b3, .ref b4, .ref b5, .ref b6, .ref b7, .ref b8, .ref b9, .ref b10, .ref b11, .int (nI rg - nI 1), .int (nI rn), .int (nI ro), .int (nI sp), .int (nI gp), .int (nI fx), .ref b12, .ref b13, .ref b14, .ref b15, .ref b16, .ref b17], zar b0 kb0 8 (fun j => nI (mm 0 j)), zar b1 kb1 8 (fun j => nI (mm 1 j)), zar b2 kb2 40 (fun j => nI (va_up (mm 2) n 12 j)), zar b3 kb3 40 (fun j => nI (va_up (mm 3) n rn j)), zar b4 kb4 40 (fun j => nI (va_up (mm 4) n a_v j)), zar b5 kb5 40 (fun j => nI (va_up (mm 5) n b_v j)), zar b6 kb6 40 (fun j => nI (va_up (mm 6) n (rg - 1) j)), zar b7 kb7 40 (fun j => nI (va_up (mm 7) n c1_v j)), zar b8 kb8 40 (fun j => nI (va_up (mm 8) n d1_v j)), zar b9 kb9 40 (fun j => nI (mm 9 j)), zar b10 kb10 40 (fun j => nI (mm 10 j)), zar b11 kb11 40 (fun j => nI (mm 11 j))] := by rw [← e_u]; exact hD
                refine lv_aload_n hx hb dMD_cell_210 rfl (lv_at hl 8 rfl) ?_
                refine va_get (D := (dC, dI)) (ci := 6) (v := .ref b9) (C := RMD) (T := TMD) (N := 26) hx hb hz in_MD hown hK hP 0 rfl rfl 11 (by decide) (hz _ wd_595) (fun _ h9 => h9) rfl dMD_cell_211 ?_
                refine lv_iload hx hb dMD_cell_214 (lv_at hl 0 rfl) ?_
                refine lv_iload hx hb dMD_cell_216 (lv_at hl 3 rfl) ?_
                refine va_iast hx hb hK hP hD hS 10 9 rfl rfl (vp_in_nI (by omega) (by omega)) dMD_cell_218 (fun H locs hP hD hS => ?_)
                have e_u := z_upd (f := mm 9) (k := n) (v := e1_v) (by omega)
                have hP : va_P (dC, dI) vwCl [zob h0 6 [.int (nI mg), .ref b0, .ref b1, .int (nI n), .ref b2, .ref b3, .ref b4, .ref b5, .ref b6, .ref b7, .ref b8, .ref b9, .ref b10, .ref b11, .int (nI rg - nI 1), .int (nI rn), .int (nI ro), .int (nI sp), .int (nI gp), .int (nI fx), .ref b12, .ref b13, .ref b14, .ref b15, .ref b16, .ref b17], zar b0 kb0 8 (fun j => nI (mm 0 j)), zar b1 kb1 8 (fun j => nI (mm 1 j)), zar b2 kb2 40 (fun j => nI (va_up (mm 2) n 12 j)), zar b3 kb3 40 (fun j => nI (va_up (mm 3) n rn j)), zar b4 kb4 40 (fun j => nI (va_up (mm 4) n a_v j)), zar b5 kb5 40 (fun j => nI (va_up (mm 5) n b_v j)), zar b6 kb6 40 (fun j => nI (va_up (mm 6) n (rg - 1) j)), zar b7 kb7 40 (fun j => nI (va_up (mm 7) n c1_v j)), zar b8 kb8 40 (fun j => nI (va_up (mm 8) n d1_v j)), zar b9 kb9 40 (fun j => nI (va_up (mm 9) n e1_v j)), zar b10 kb10 40 (fun j => nI (mm 10 j)), zar b11 kb11 40 (fun j => nI (mm 11 j))] H := by rw [← e_u]; exact hP
                have hD : va_D A [zob h0 6 [.int (nI mg), .ref b0, .ref b1, .int (nI n), .ref b2, .ref b3, .ref b4, .ref b5, .ref b6, .ref b7, .ref b8, .ref b9, .ref b10, .ref b11, .int (nI rg - nI 1), .int (nI rn), .int (nI ro), .int (nI sp), .int (nI gp), .int (nI fx), .ref b12, .ref b13, .ref b14, .ref b15, .ref b16, .ref b17], zar b0 kb0 8 (fun j => nI (mm 0 j)), zar b1 kb1 8 (fun j => nI (mm 1 j)), zar b2 kb2 40 (fun j => nI (va_up (mm 2) n 12 j)), zar b3 kb3 40 (fun j => nI (va_up (mm 3) n rn j)), zar b4 kb4 40 (fun j => nI (va_up (mm 4) n a_v j)), zar b5 kb5 40 (fun j => nI (va_up (mm 5) n b_v j)), zar b6 kb6 40 (fun j => nI (va_up (mm 6) n (rg - 1) j)), zar b7 kb7 40 (fun j => nI (va_up (mm 7) n c1_v j)), zar b8 kb8 40 (fun j => nI (va_up (mm 8) n d1_v j)), zar b9 kb9 40 (fun j => nI (va_up (mm 9) n e1_v j)), zar b10 kb10 40 (fun j => nI (mm 10 j)), zar b11 kb11 40 (fun j => nI (mm 11 j))] := by rw [← e_u]; exact hD
                refine lv_aload_n hx hb dMD_cell_219 rfl (lv_at hl 8 rfl) ?_
                refine va_get (D := (dC, dI)) (ci := 6) (v := .ref b10) (C := RMD) (T := TMD) (N := 26) hx hb hz in_MD hown hK hP 0 rfl rfl 12 (by decide) (hz _ wd_596) (fun _ h9 => h9) rfl dMD_cell_220 ?_
                refine lv_iload hx hb dMD_cell_223 (lv_at hl 0 rfl) ?_
                refine lv_iconst (v := nI 0) hx hb dMD_cell_225 (by decide) ?_
                refine va_iast hx hb hK hP hD hS 11 10 rfl rfl (vp_in_nI (by omega) (by omega)) dMD_cell_226 (fun H locs hP hD hS => ?_)
                have e_u := z_upd (f := mm 10) (k := n) (v := 0) (by omega)
                have hP : va_P (dC, dI) vwCl [zob h0 6 [.int (nI mg), .ref b0, .ref b1, .int (nI n), .ref b2, .ref b3, .ref b4, .ref b5, .ref b6, .ref b7, .ref b8, .ref b9, .ref b10, .ref b11, .int (nI rg - nI 1), .int (nI rn), .int (nI ro), .int (nI sp), .int (nI gp), .int (nI fx), .ref b12, .ref b13, .ref b14, .ref b15, .ref b16, .ref b17], zar b0 kb0 8 (fun j => nI (mm 0 j)), zar b1 kb1 8 (fun j => nI (mm 1 j)), zar b2 kb2 40 (fun j => nI (va_up (mm 2) n 12 j)), zar b3 kb3 40 (fun j => nI (va_up (mm 3) n rn j)), zar b4 kb4 40 (fun j => nI (va_up (mm 4) n a_v j)), zar b5 kb5 40 (fun j => nI (va_up (mm 5) n b_v j)), zar b6 kb6 40 (fun j => nI (va_up (mm 6) n (rg - 1) j)), zar b7 kb7 40 (fun j => nI (va_up (mm 7) n c1_v j)), zar b8 kb8 40 (fun j => nI (va_up (mm 8) n d1_v j)), zar b9 kb9 40 (fun j => nI (va_up (mm 9) n e1_v j)), zar b10 kb10 40 (fun j => nI (va_up (mm 10) n 0 j)), zar b11 kb11 40 (fun j => nI (mm 11 j))] H := by rw [← e_u]; exact hP
                have hD : va_D A [zob h0 6 [.int (nI mg), .ref b0, .ref b1, .int (nI n), .ref b2, .ref b3, .ref b4, .ref b5, .ref b6, .ref b7, .ref b8, .ref b9, .ref b10, .ref b11, .int (nI rg - nI 1), .int (nI rn), .int (nI ro), .int (nI sp), .int (nI gp), .int (nI fx), .ref b12, .ref b13, .ref b14, .ref b15, .ref b16, .ref b17], zar b0 kb0 8 (fun j => nI (mm 0 j)), zar b1 kb1 8 (fun j => nI (mm 1 j)), zar b2 kb2 40 (fun j => nI (va_up (mm 2) n 12 j)), zar b3 kb3 40 (fun j => nI (va_up (mm 3) n rn j)), zar b4 kb4 40 (fun j => nI (va_up (mm 4) n a_v j)), zar b5 kb5 40 (fun j => nI (va_up (mm 5) n b_v j)), zar b6 kb6 40 (fun j => nI (va_up (mm 6) n (rg - 1) j)), zar b7 kb7 40 (fun j => nI (va_up (mm 7) n c1_v j)), zar b8 kb8 40 (fun j => nI (va_up (mm 8) n d1_v j)), zar b9 kb9 40 (fun j => nI (va_up (mm 9) n e1_v j)), zar b10 kb10 40 (fun j => nI (va_up (mm 10) n 0 j)), zar b11 kb11 40 (fun j => nI (mm 11 j))] := by rw [← e_u]; exact hD
                refine lv_aload_n hx hb dMD_cell_227 rfl (lv_at hl 8 rfl) ?_
                refine va_get (D := (dC, dI)) (ci := 6) (v := .ref b11) (C := RMD) (T := TMD) (N := 26) hx hb hz in_MD hown hK hP 0 rfl rfl 13 (by decide) (hz _ wd_597) (fun _ h9 => h9) rfl dMD_cell_228 ?_
                refine lv_iload hx hb dMD_cell_231 (lv_at hl 0 rfl) ?_
                refine lv_iconst (v := nI 0) hx hb dMD_cell_233 (by decide) ?_
                refine va_iast hx hb hK hP hD hS 12 11 rfl rfl (vp_in_nI (by omega) (by omega)) dMD_cell_234 (fun H locs hP hD hS => ?_)
                have e_u := z_upd (f := mm 11) (k := n) (v := 0) (by omega)
                have hP : va_P (dC, dI) vwCl [zob h0 6 [.int (nI mg), .ref b0, .ref b1, .int (nI n), .ref b2, .ref b3, .ref b4, .ref b5, .ref b6, .ref b7, .ref b8, .ref b9, .ref b10, .ref b11, .int (nI rg - nI 1), .int (nI rn), .int (nI ro), .int (nI sp), .int (nI gp), .int (nI fx), .ref b12, .ref b13, .ref b14, .ref b15, .ref b16, .ref b17], zar b0 kb0 8 (fun j => nI (mm 0 j)), zar b1 kb1 8 (fun j => nI (mm 1 j)), zar b2 kb2 40 (fun j => nI (va_up (mm 2) n 12 j)), zar b3 kb3 40 (fun j => nI (va_up (mm 3) n rn j)), zar b4 kb4 40 (fun j => nI (va_up (mm 4) n a_v j)), zar b5 kb5 40 (fun j => nI (va_up (mm 5) n b_v j)), zar b6 kb6 40 (fun j => nI (va_up (mm 6) n (rg - 1) j)), zar b7 kb7 40 (fun j => nI (va_up (mm 7) n c1_v j)), zar b8 kb8 40 (fun j => nI (va_up (mm 8) n d1_v j)), zar b9 kb9 40 (fun j => nI (va_up (mm 9) n e1_v j)), zar b10 kb10 40 (fun j => nI (va_up (mm 10) n 0 j)), zar b11 kb11 40 (fun j => nI (va_up (mm 11) n 0 j))] H := by rw [← e_u]; exact hP
                have hD : va_D A [zob h0 6 [.int (nI mg), .ref b0, .ref b1, .int (nI n), .ref b2, .ref b3, .ref b4, .ref b5, .ref b6, .ref b7, .ref b8, .ref b9, .ref b10, .ref b11, .int (nI rg - nI 1), .int (nI rn), .int (nI ro), .int (nI sp), .int (nI gp), .int (nI fx), .ref b12, .ref b13, .ref b14, .ref b15, .ref b16, .ref b17], zar b0 kb0 8 (fun j => nI (mm 0 j)), zar b1 kb1 8 (fun j => nI (mm 1 j)), zar b2 kb2 40 (fun j => nI (va_up (mm 2) n 12 j)), zar b3 kb3 40 (fun j => nI (va_up (mm 3) n rn j)), zar b4 kb4 40 (fun j => nI (va_up (mm 4) n a_v j)), zar b5 kb5 40 (fun j => nI (va_up (mm 5) n b_v j)), zar b6 kb6 40 (fun j => nI (va_up (mm 6) n (rg - 1) j)), zar b7 kb7 40 (fun j => nI (va_up (mm 7) n c1_v j)), zar b8 kb8 40 (fun j => nI (va_up (mm 8) n d1_v j)), zar b9 kb9 40 (fun j => nI (va_up (mm 9) n e1_v j)), zar b10 kb10 40 (fun j => nI (va_up (mm 10) n 0 j)), zar b11 kb11 40 (fun j => nI (va_up (mm 11) n 0 j))] := by rw [← e_u]; exact hD
                refine lv_aload_n hx hb dMD_cell_235 rfl (lv_at hl 8 rfl) ?_
                refine lv_iload hx hb dMD_cell_236 (lv_at hl 1 rfl) ?_
                refine lv_iload_n hx hb dMD_cell_238 rfl (lv_at hl 7 rfl) ?_
                refine lv_iadd hx hb dMD_cell_239 ?_
                refine lv_topi (fun x20 e21 => ?_)
                have e21 : x20 = nI (12 + a_v) := e21.trans (nI_add _ _)
                subst e21
                refine va_put (D := (dC, dI)) (ci := 6) (v := .int (nI (12 + a_v))) (ty := .int) (C := RMD) (T := TMD) (N := 26) hx hb hz in_MD tyMD tokMD nokMD hown hK hP hD hS 0 rfl rfl 16 (by decide) (hz _ wd_600) (fun _ h9 => h9) rfl (by decide +kernel) rfl rfl (Nat.le_of_ble_eq_true rfl) dMD_cell_240 (fun H locs hP hD hS => ?_)
                have hP : va_P (dC, dI) vwCl [zob h0 6 [.int (nI mg), .ref b0, .ref b1, .int (nI n), .ref b2, .ref b3, .ref b4, .ref b5, .ref b6, .ref b7, .ref b8, .ref b9, .ref b10, .ref b11, .int (nI rg - nI 1), .int (nI rn), .int (nI (12 + a_v)), .int (nI sp), .int (nI gp), .int (nI fx), .ref b12, .ref b13, .ref b14, .ref b15, .ref b16, .ref b17], zar b0 kb0 8 (fun j => nI (mm 0 j)), zar b1 kb1 8 (fun j => nI (mm 1 j)), zar b2 kb2 40 (fun j => nI (va_up (mm 2) n 12 j)), zar b3 kb3 40 (fun j => nI (va_up (mm 3) n rn j)), zar b4 kb4 40 (fun j => nI (va_up (mm 4) n a_v j)), zar b5 kb5 40 (fun j => nI (va_up (mm 5) n b_v j)), zar b6 kb6 40 (fun j => nI (va_up (mm 6) n (rg - 1) j)), zar b7 kb7 40 (fun j => nI (va_up (mm 7) n c1_v j)), zar b8 kb8 40 (fun j => nI (va_up (mm 8) n d1_v j)), zar b9 kb9 40 (fun j => nI (va_up (mm 9) n e1_v j)), zar b10 kb10 40 (fun j => nI (va_up (mm 10) n 0 j)), zar b11 kb11 40 (fun j => nI (va_up (mm 11) n 0 j))] H := hP
                have hD : va_D A [zob h0 6 [.int (nI mg), .ref b0, .ref b1, .int (nI n), .ref b2, .ref b3, .ref b4, .ref b5, .ref b6, .ref b7, .ref b8, .ref b9, .ref b10, .ref b11, .int (nI rg - nI 1), .int (nI rn), .int (nI (12 + a_v)), .int (nI sp), .int (nI gp), .int (nI fx), .ref b12, .ref b13, .ref b14, .ref b15, .ref b16, .ref b17], zar b0 kb0 8 (fun j => nI (mm 0 j)), zar b1 kb1 8 (fun j => nI (mm 1 j)), zar b2 kb2 40 (fun j => nI (va_up (mm 2) n 12 j)), zar b3 kb3 40 (fun j => nI (va_up (mm 3) n rn j)), zar b4 kb4 40 (fun j => nI (va_up (mm 4) n a_v j)), zar b5 kb5 40 (fun j => nI (va_up (mm 5) n b_v j)), zar b6 kb6 40 (fun j => nI (va_up (mm 6) n (rg - 1) j)), zar b7 kb7 40 (fun j => nI (va_up (mm 7) n c1_v j)), zar b8 kb8 40 (fun j => nI (va_up (mm 8) n d1_v j)), zar b9 kb9 40 (fun j => nI (va_up (mm 9) n e1_v j)), zar b10 kb10 40 (fun j => nI (va_up (mm 10) n 0 j)), zar b11 kb11 40 (fun j => nI (va_up (mm 11) n 0 j))] := hD
                refine lv_aload_n hx hb dMD_cell_243 rfl (lv_at hl 8 rfl) ?_
                refine lv_aload_n hx hb dMD_cell_244 rfl (lv_at hl 8 rfl) ?_
                refine va_get (D := (dC, dI)) (ci := 6) (v := .int (nI n)) (C := RMD) (T := TMD) (N := 26) hx hb hz in_MD hown hK hP 0 rfl rfl 3 (by decide) (hz _ wd_587) (fun _ h9 => h9) rfl dMD_cell_245 ?_
                refine lv_iconst (v := nI 1) hx hb dMD_cell_248 (by decide) ?_
                refine lv_iadd hx hb dMD_cell_249 ?_
                refine lv_topi (fun x22 e23 => ?_)
                have e23 : x22 = nI (n + 1) := e23.trans (nI_add _ _)
                subst e23
                refine va_put (D := (dC, dI)) (ci := 6) (v := .int (nI (n + 1))) (ty := .int) (C := RMD) (T := TMD) (N := 26) hx hb hz in_MD tyMD tokMD nokMD hown hK hP hD hS 0 rfl rfl 3 (by decide) (hz _ wd_587) (fun _ h9 => h9) rfl (by decide +kernel) rfl rfl (Nat.le_of_ble_eq_true rfl) dMD_cell_250 (fun H locs hP hD hS => ?_)
                have hP : va_P (dC, dI) vwCl [zob h0 6 [.int (nI mg), .ref b0, .ref b1, .int (nI (n + 1)), .ref b2, .ref b3, .ref b4, .ref b5, .ref b6, .ref b7, .ref b8, .ref b9, .ref b10, .ref b11, .int (nI rg - nI 1), .int (nI rn), .int (nI (12 + a_v)), .int (nI sp), .int (nI gp), .int (nI fx), .ref b12, .ref b13, .ref b14, .ref b15, .ref b16, .ref b17], zar b0 kb0 8 (fun j => nI (mm 0 j)), zar b1 kb1 8 (fun j => nI (mm 1 j)), zar b2 kb2 40 (fun j => nI (va_up (mm 2) n 12 j)), zar b3 kb3 40 (fun j => nI (va_up (mm 3) n rn j)), zar b4 kb4 40 (fun j => nI (va_up (mm 4) n a_v j)), zar b5 kb5 40 (fun j => nI (va_up (mm 5) n b_v j)), zar b6 kb6 40 (fun j => nI (va_up (mm 6) n (rg - 1) j)), zar b7 kb7 40 (fun j => nI (va_up (mm 7) n c1_v j)), zar b8 kb8 40 (fun j => nI (va_up (mm 8) n d1_v j)), zar b9 kb9 40 (fun j => nI (va_up (mm 9) n e1_v j)), zar b10 kb10 40 (fun j => nI (va_up (mm 10) n 0 j)), zar b11 kb11 40 (fun j => nI (va_up (mm 11) n 0 j))] H := hP
                have hD : va_D A [zob h0 6 [.int (nI mg), .ref b0, .ref b1, .int (nI (n + 1)), .ref b2, .ref b3, .ref b4, .ref b5, .ref b6, .ref b7, .ref b8, .ref b9, .ref b10, .ref b11, .int (nI rg - nI 1), .int (nI rn), .int (nI (12 + a_v)), .int (nI sp), .int (nI gp), .int (nI fx), .ref b12, .ref b13, .ref b14, .ref b15, .ref b16, .ref b17], zar b0 kb0 8 (fun j => nI (mm 0 j)), zar b1 kb1 8 (fun j => nI (mm 1 j)), zar b2 kb2 40 (fun j => nI (va_up (mm 2) n 12 j)), zar b3 kb3 40 (fun j => nI (va_up (mm 3) n rn j)), zar b4 kb4 40 (fun j => nI (va_up (mm 4) n a_v j)), zar b5 kb5 40 (fun j => nI (va_up (mm 5) n b_v j)), zar b6 kb6 40 (fun j => nI (va_up (mm 6) n (rg - 1) j)), zar b7 kb7 40 (fun j => nI (va_up (mm 7) n c1_v j)), zar b8 kb8 40 (fun j => nI (va_up (mm 8) n d1_v j)), zar b9 kb9 40 (fun j => nI (va_up (mm 9) n e1_v j)), zar b10 kb10 40 (fun j => nI (va_up (mm 10) n 0 j)), zar b11 kb11 40 (fun j => nI (va_up (mm 11) n 0 j))] := hD
                refine lv_iload hx hb dMD_cell_253 (lv_at hl 0 rfl) ?_
                subst hQ
                exact zw_iret (D := (dC, dI)) (cl := vwCl) (A := A) (n + 1, 12 + a_v, zmPt mm n 12 rn a_v b_v (rg - 1) c1_v d1_v e1_v) hx hb hr hlocks (Or.inr ⟨⟨h_g2, by omega, by omega⟩, 12, a_v, b_v, c1_v, d1_v, e1_v, ⟨by omega, by omega, by omega, by omega, by omega⟩, ⟨by omega, by omega, hxI, fun h9 => absurd h9 (by omega)⟩, rfl, rfl, rfl, rfl, rfl, Or.inr ⟨by omega, rfl, rfl, rfl, rfl⟩⟩) (hP.sub [0, 1, 2, 3, 4, 5, 6, 7, 8, 9, 10, 11, 12] rfl) (hK.sub [] rfl) (hD.sub [0, 1, 2, 3, 4, 5, 6, 7, 8, 9, 10, 11, 12] (by decide) rfl) hS dMD_cell_255
              · have h17 := z_nle h17
                refine lv_iconst (v := (-1)) hx hb dMD_cell_138 (by decide) ?_
                subst hQ
                exact zw_iret (D := (dC, dI)) (cl := vwCl) (A := A) (n, ro, mm) hx hb hr hlocks (Or.inr ⟨⟨h_g2, by omega, by omega⟩, 12, a_v, b_v, c1_v, d1_v, e1_v, ⟨by omega, by omega, by omega, by omega, by omega⟩, ⟨by omega, by omega, hxI, fun h9 => absurd h9 (by omega)⟩, rfl, rfl, rfl, rfl, rfl, Or.inl ⟨by omega, rfl, rfl, rfl, rfl⟩⟩) (hP.sub [0, 1, 2, 3, 4, 5, 6, 7, 8, 9, 10, 11, 12] rfl) (hK.sub [] rfl) (hD.sub [0, 1, 2, 3, 4, 5, 6, 7, 8, 9, 10, 11, 12] (by decide) rfl) hS dMD_cell_139
          · intro i hi ih
            intro x9 ls hI
            obtain ⟨hl, hxr, hxI⟩ := hI
            have hl : lv_has ls 9 [(7, .int (nI i)), (6, .int v1), (5, .int (nI e1_v)), (4, .int (nI d1_v)), (3, .int (nI c1_v)), (2, .int (nI b_v)), (1, .int (nI a_v)), (0, .ref h0)] := hl
            refine lv_iload hx hb dMD_cell_93 (lv_at hl 0 rfl) ?_
            refine lv_bipush (v := nI 12) hx hb dMD_cell_95 (by decide) ?_
            have t24 := nI_toInt (n := i) (by omega)
            have t25 := nI_toInt (n := 12) (by omega)
            refine lv_icmp_ge (tgt := 118) hx hb dMD_cell_97 rfl (fun h => by have h := z_le h; omega) (fun _ => ?_)
            refine lv_aload_n hx hb dMD_cell_100 rfl (lv_at hl 7 rfl) ?_
            refine lv_iload hx hb dMD_cell_101 (lv_at hl 0 rfl) ?_
            refine vp_callSi (W.runV (As := [.int (nI i)]) (rest := []) ⟨hx, hb, hml, hown, hz⟩ (f_MD_isTaken l dC dI h0 b0 b1 b2 b3 b4 b5 b6 b7 b8 b9 b10 b11 b12 b13 b14 b15 b16 b17 kb0 kb1 kb2 kb3 kb4 kb5 kb6 kb7 kb8 kb9 kb10 kb11 mg n _ rn ro sp gp fx _ i (hm) (by omega) (hg) (hG) (hE) (by omega)) (cwV 1 hz (z_gV wd_680 wd_682 wd_14 wd_37 wd_683) rfl rfl rfl (by decide +kernel) ⟨Nat.le_of_ble_eq_true rfl, Nat.le_of_ble_eq_true rfl⟩) (zr_preV hK (hP.sub [0, 1, 2, 3, 4, 5, 6, 7, 8, 9, 10, 11, 12] rfl) (va_recv (q0 := 0) hK hP (q := (RMD, TMD, 26)) rfl rfl) [0, 1, 2, 3, 4, 5, 6, 7, 8, 9, 10, 11] rfl z_true (fun _ _ _ => trivial)) rfl rfl hl.1 rfl (lv_room (Nat.le_of_ble_eq_true rfl)) dMD_cell_103 ⟨Nat.le_of_ble_eq_true rfl, Nat.le_of_ble_eq_true rfl⟩) (fun rb h_rb => ?_)
            have h_rb : z_yn rb (∃ k, k < n ∧ zIt mm rg rn i k) := h_rb
            refine lv_if_eq (tgt := 118) hx hb dMD_cell_106 rfl (fun h_b => ?_) (fun h_b => ?_)
            · have h_b := z_yF h_rb h_b
              refine lv_iload hx hb dMD_cell_118 (lv_at hl 0 rfl) ?_
              refine lv_iload_n hx hb dMD_cell_120 rfl (lv_at hl 6 rfl) ?_
              refine lv_iadd hx hb dMD_cell_121 ?_
              refine lv_topi (fun x27 e28 => ?_)
              have e28 : x27 = nI (i + a_v) := e28.trans (nI_add _ _)
              subst e28
              refine lv_bipush (v := nI 12) hx hb dMD_cell_122 (by decide) ?_
              have t29 := nI_toInt (n := i + a_v) (by omega)
              have t30 := nI_toInt (n := 12) (by omega)
              refine lv_icmp_gt (tgt := 138) hx hb dMD_cell_124 rfl (fun h31 => ?_) (fun h31 => ?_)
              · have h31 := z_lt h31
                refine lv_iconst (v := (-1)) hx hb dMD_cell_138 (by decide) ?_
                subst hQ
                exact zw_iret (D := (dC, dI)) (cl := vwCl) (A := A) (n, ro, mm) hx hb hr hlocks (Or.inr ⟨⟨h_g2, by omega, by omega⟩, i, a_v, b_v, c1_v, d1_v, e1_v, ⟨by omega, by omega, by omega, by omega, by omega⟩, ⟨by omega, by omega, hxI, fun _ => h_b⟩, rfl, rfl, rfl, rfl, rfl, Or.inl ⟨by omega, rfl, rfl, rfl, rfl⟩⟩) (hP.sub [0, 1, 2, 3, 4, 5, 6, 7, 8, 9, 10, 11, 12] rfl) (hK.sub [] rfl) (hD.sub [0, 1, 2, 3, 4, 5, 6, 7, 8, 9, 10, 11, 12] (by decide) rfl) hS dMD_cell_139
              · have h31 := z_nlt h31
                refine lv_aload_n hx hb dMD_cell_127 rfl (lv_at hl 7 rfl) ?_
                refine va_get (D := (dC, dI)) (ci := 6) (v := .int (nI rn)) (C := RMD) (T := TMD) (N := 26) hx hb hz in_MD hown hK hP 0 rfl rfl 15 (by decide) (hz _ wd_599) (fun _ h9 => h9) rfl dMD_cell_128 ?_
                refine lv_iload_n hx hb dMD_cell_131 rfl (lv_at hl 5 rfl) ?_
                refine lv_iadd hx hb dMD_cell_132 ?_
                refine lv_topi (fun x32 e33 => ?_)
                have e33 : x32 = nI (rn + b_v) := e33.trans (nI_add _ _)
                subst e33
                refine lv_bipush (v := nI 12) hx hb dMD_cell_133 (by decide) ?_
                have t34 := nI_toInt (n := rn + b_v) (by omega)
                have t35 := nI_toInt (n := 12) (by omega)
                refine lv_icmp_le (tgt := 140) hx hb dMD_cell_135 rfl (fun h36 => ?_) (fun h36 => ?_)
                · have h36 := z_le h36
                  refine lv_aload_n hx hb dMD_cell_140 rfl (lv_at hl 7 rfl) ?_
                  refine va_get (D := (dC, dI)) (ci := 6) (v := .int (nI n)) (C := RMD) (T := TMD) (N := 26) hx hb hz in_MD hown hK hP 0 rfl rfl 3 (by decide) (hz _ wd_587) (fun _ h9 => h9) rfl dMD_cell_141 ?_
                  refine lv_istore hx hb dMD_cell_144 hl (Nat.le_of_ble_eq_true rfl) rfl (fun ls hl => ?_)
                  have hl : lv_has ls 9 [(8, .int (nI n)), (7, .int (nI i)), (6, .int v1), (5, .int (nI e1_v)), (4, .int (nI d1_v)), (3, .int (nI c1_v)), (2, .int (nI b_v)), (1, .int (nI a_v)), (0, .ref h0)] := hl
                  refine lv_aload_n hx hb dMD_cell_146 rfl (lv_at hl 8 rfl) ?_
                  refine va_get (D := (dC, dI)) (ci := 6) (v := .ref b2) (C := RMD) (T := TMD) (N := 26) hx hb hz in_MD hown hK hP 0 rfl rfl 4 (by decide) (hz _ wd_588) (fun _ h9 => h9) rfl dMD_cell_147 ?_
                  refine lv_iload hx hb dMD_cell_150 (lv_at hl 0 rfl) ?_
                  refine lv_iload hx hb dMD_cell_152 (lv_at hl 1 rfl) ?_
                  refine va_iast hx hb hK hP hD hS 3 2 rfl rfl (vp_in_nI (by omega) (by omega)) dMD_cell_154 (fun H locs hP hD hS => ?_)
                  have e_u := z_upd (f := mm 2) (k := n) (v := i) (by omega)
                  have hP : va_P (dC, dI) vwCl [zob h0 6 [.int (nI mg), .ref b0, .ref b1, .int (nI n), .ref b2, .ref b3, .ref b4, .ref b5, .ref b6, .ref b7, .ref b8, .ref b9, .ref b10, .ref b11, .int (nI rg - nI 1), .int (nI rn), .int (nI ro), .int (nI sp), .int (nI gp), .int (nI fx), .ref b12, .ref b13, .ref b14, .ref b15, .ref b16, .ref b17], zar b0 kb0 8 (fun j => nI (mm 0 j)), zar b1 kb1 8 (fun j => nI (mm 1 j)), zar b2 kb2 40 (fun j => nI (va_up (mm 2) n i j)), zar b3 kb3 40 (fun j => nI (mm 3 j)), zar b4 kb4 40 (fun j => nI (mm 4 j)), zar b5 kb5 40 (fun j => nI (mm 5 j)), zar b6 kb6 40 (fun j => nI (mm 6 j)), zar b7 kb7 40 (fun j => nI (mm 7 j)), zar b8 kb8 40 (fun j => nI (mm 8 j)), zar b9 kb9 40 (fun j => nI (mm 9 j)), zar b10 kb10 40 (fun j => nI (mm 10 j)), zar b11 kb11 40 (fun j => nI (mm 11 j))] H := by rw [← e_u]; exact hP
                  have hD : va_D A [zob h0 6 [.int (nI mg), .ref b0, .ref b1, .int (nI n), .ref b2, .ref b3, .ref b4, .ref b5, .ref b6, .ref b7, .ref b8, .ref b9, .ref b10, .ref b11, .int (nI rg - nI 1), .int (nI rn), .int (nI ro), .int (nI sp), .int (nI gp), .int (nI fx), .ref b12, .ref b13, .ref b14, .ref b15, .ref b16, .ref b17], zar b0 kb0 8 (fun j => nI (mm 0 j)), zar b1 kb1 8 (fun j => nI (mm 1 j)), zar b2 kb2 40 (fun j => nI (va_up (mm 2) n i j)), zar b3 kb3 40 (fun j => nI (mm 3 j)), zar b4 kb4 40 (fun j => nI (mm 4 j)), zar b5 kb5 40 (fun j => nI (mm 5 j)), zar b6 kb6 40 (fun j => nI (mm 6 j)), zar b7 kb7 40 (fun j => nI (mm 7 j)), zar b8 kb8 40 (fun j => nI (mm 8 j)), zar b9 kb9 40 (fun j => nI (mm 9 j)), zar b10 kb10 40 (fun j => nI (mm 10 j)), zar b11 kb11 40 (fun j => nI (mm 11 j))] := by rw [← e_u]; exact hD
                  refine lv_aload_n hx hb dMD_cell_155 rfl (lv_at hl 8 rfl) ?_
                  refine va_get (D := (dC, dI)) (ci := 6) (v := .ref b3) (C := RMD) (T := TMD) (N := 26) hx hb hz in_MD hown hK hP 0 rfl rfl 5 (by decide) (hz _ wd_589) (fun _ h9 => h9) rfl dMD_cell_156 ?_
                  refine lv_iload hx hb dMD_cell_159 (lv_at hl 0 rfl) ?_
                  refine lv_aload_n hx hb dMD_cell_161 rfl (lv_at hl 8 rfl) ?_
                  refine va_get (D := (dC, dI)) (ci := 6) (v := .int (nI rn)) (C := RMD) (T := TMD) (N := 26) hx hb hz in_MD hown hK hP 0 rfl rfl 15 (by decide) (hz _ wd_599) (fun _ h9 => h9) rfl dMD_cell_162 ?_
                  refine va_iast hx hb hK hP hD hS 4 3 rfl rfl (vp_in_nI (by omega) (by omega)) dMD_cell_165 (fun H locs hP hD hS => ?_)
                  have e_u := z_upd (f := mm 3) (k := n) (v := rn) (by omega)
                  have hP : va_P (dC, dI) vwCl [zob h0 6 [.int (nI mg), .ref b0, .ref b1, .int (nI n), .ref b2, .ref b3, .ref b4, .ref b5, .ref b6, .ref b7, .ref b8, .ref b9, .ref b10, .ref b11, .int (nI rg - nI 1), .int (nI rn), .int (nI ro), .int (nI sp), .int (nI gp), .int (nI fx), .ref b12, .ref b13, .ref b14, .ref b15, .ref b16, .ref b17], zar b0 kb0 8 (fun j => nI (mm 0 j)), zar b1 kb1 8 (fun j => nI (mm 1 j)), zar b2 kb2 40 (fun j => nI (va_up (mm 2) n i j)), zar b3 kb3 40 (fun j => nI (va_up (mm 3) n rn j)), zar b4 kb4 40 (fun j => nI (mm 4 j)), zar b5 kb5 40 (fun j => nI (mm 5 j)), zar b6 kb6 40 (fun j => nI (mm 6 j)), zar b7 kb7 40 (fun j => nI (mm 7 j)), zar b8 kb8 40 (fun j => nI (mm 8 j)), zar b9 kb9 40 (fun j => nI (mm 9 j)), zar b10 kb10 40 (fun j => nI (mm 10 j)), zar b11 kb11 40 (fun j => nI (mm 11 j))] H := by rw [← e_u]; exact hP
                  have hD : va_D A [zob h0 6 [.int (nI mg), .ref b0, .ref b1, .int (nI n), .ref b2, .ref b3, .ref b4, .ref b5, .ref b6, .ref b7, .ref b8, .ref b9, .ref b10, .ref b11, .int (nI rg - nI 1), .int (nI rn), .int (nI ro), .int (nI sp), .int (nI gp), .int (nI fx), .ref b12, .ref b13, .ref b14, .ref b15, .ref b16, .ref b17], zar b0 kb0 8 (fun j => nI (mm 0 j)), zar b1 kb1 8 (fun j => nI (mm 1 j)), zar b2 kb2 40 (fun j => nI (va_up (mm 2) n i j)), zar b3 kb3 40 (fun j => nI (va_up (mm 3) n rn j)), zar b4 kb4 40 (fun j => nI (mm 4 j)), zar b5 kb5 40 (fun j => nI (mm 5 j)), zar b6 kb6 40 (fun j => nI (mm 6 j)), zar b7 kb7 40 (fun j => nI (mm 7 j)), zar b8 kb8 40 (fun j => nI (mm 8 j)), zar b9 kb9 40 (fun j => nI (mm 9 j)), zar b10 kb10 40 (fun j => nI (mm 10 j)), zar b11 kb11 40 (fun j => nI (mm 11 j))] := by rw [← e_u]; exact hD
                  refine lv_aload_n hx hb dMD_cell_166 rfl (lv_at hl 8 rfl) ?_
                  refine va_get (D := (dC, dI)) (ci := 6) (v := .ref b4) (C := RMD) (T := TMD) (N := 26) hx hb hz in_MD hown hK hP 0 rfl rfl 6 (by decide) (hz _ wd_590) (fun _ h9 => h9) rfl dMD_cell_167 ?_
                  refine lv_iload hx hb dMD_cell_170 (lv_at hl 0 rfl) ?_
                  refine lv_iload_n hx hb dMD_cell_172 rfl (lv_at hl 7 rfl) ?_
                  refine va_iast hx hb hK hP hD hS 5 4 rfl rfl (vp_in_nI (by omega) (by omega)) dMD_cell_173 (fun H locs hP hD hS => ?_)
                  have e_u := z_upd (f := mm 4) (k := n) (v := a_v) (by omega)
                  have hP : va_P (dC, dI) vwCl [zob h0 6 [.int (nI mg), .ref b0, .ref b1, .int (nI n), .ref b2, .ref b3, .ref b4, .ref b5, .ref b6, .ref b7, .ref b8, .ref b9, .ref b10, .ref b11, .int (nI rg - nI 1), .int (nI rn), .int (nI ro), .int (nI sp), .int (nI gp), .int (nI fx), .ref b12, .ref b13, .ref b14, .ref b15, .ref b16, .ref b17], zar b0 kb0 8 (fun j => nI (mm 0 j)), zar b1 kb1 8 (fun j => nI (mm 1 j)), zar b2 kb2 40 (fun j => nI (va_up (mm 2) n i j)), zar b3 kb3 40 (fun j => nI (va_up (mm 3) n rn j)), zar b4 kb4 40 (fun j => nI (va_up (mm 4) n a_v j)), zar b5 kb5 40 (fun j => nI (mm 5 j)), zar b6 kb6 40 (fun j => nI (mm 6 j)), zar b7 kb7 40 (fun j => nI (mm 7 j)), zar b8 kb8 40 (fun j => nI (mm 8 j)), zar b9 kb9 40 (fun j => nI (mm 9 j)), zar b10 kb10 40 (fun j => nI (mm 10 j)), zar b11 kb11 40 (fun j => nI (mm 11 j))] H := by rw [← e_u]; exact hP
                  have hD : va_D A [zob h0 6 [.int (nI mg), .ref b0, .ref b1, .int (nI n), .ref b2, .ref b3, .ref b4, .ref b5, .ref b6, .ref b7, .ref b8, .ref b9, .ref b10, .ref b11, .int (nI rg - nI 1), .int (nI rn), .int (nI ro), .int (nI sp), .int (nI gp), .int (nI fx), .ref b12, .ref b13, .ref b14, .ref b15, .ref b16, .ref b17], zar b0 kb0 8 (fun j => nI (mm 0 j)), zar b1 kb1 8 (fun j => nI (mm 1 j)), zar b2 kb2 40 (fun j => nI (va_up (mm 2) n i j)), zar b3 kb3 40 (fun j => nI (va_up (mm 3) n rn j)), zar b4 kb4 40 (fun j => nI (va_up (mm 4) n a_v j)), zar b5 kb5 40 (fun j => nI (mm 5 j)), zar b6 kb6 40 (fun j => nI (mm 6 j)), zar b7 kb7 40 (fun j => nI (mm 7 j)), zar b8 kb8 40 (fun j => nI (mm 8 j)), zar b9 kb9 40 (fun j => nI (mm 9 j)), zar b10 kb10 40 (fun j => nI (mm 10 j)), zar b11 kb11 40 (fun j => nI (mm 11 j))] := by rw [← e_u]; exact hD
                  refine lv_aload_n hx hb dMD_cell_174 rfl (lv_at hl 8 rfl) ?_
                  refine va_get (D := (dC, dI)) (ci := 6) (v := .ref b5) (C := RMD) (T := TMD) (N := 26) hx hb hz in_MD hown hK hP 0 rfl rfl 7 (by decide) (hz _ wd_591) (fun _ h9 => h9) rfl dMD_cell_175 ?_
                  refine lv_iload hx hb dMD_cell_178 (lv_at hl 0 rfl) ?_
                  refine lv_iload_n hx hb dMD_cell_180 rfl (lv_at hl 6 rfl) ?_
                  refine va_iast hx hb hK hP hD hS 6 5 rfl rfl (vp_in_nI (by omega) (by omega)) dMD_cell_181 (fun H locs hP hD hS => ?_)
                  have e_u := z_upd (f := mm 5) (k := n) (v := b_v) (by omega)
                  have hP : va_P (dC, dI) vwCl [zob h0 6 [.int (nI mg), .ref b0, .ref b1, .int (nI n), .ref b2, .ref b3, .ref b4, .ref b5, .ref b6, .ref b7, .ref b8, .ref b9, .ref b10, .ref b11, .int (nI rg - nI 1), .int (nI rn), .int (nI ro), .int (nI sp), .int (nI gp), .int (nI fx), .ref b12, .ref b13, .ref b14, .ref b15, .ref b16, .ref b17], zar b0 kb0 8 (fun j => nI (mm 0 j)), zar b1 kb1 8 (fun j => nI (mm 1 j)), zar b2 kb2 40 (fun j => nI (va_up (mm 2) n i j)), zar b3 kb3 40 (fun j => nI (va_up (mm 3) n rn j)), zar b4 kb4 40 (fun j => nI (va_up (mm 4) n a_v j)), zar b5 kb5 40 (fun j => nI (va_up (mm 5) n b_v j)), zar b6 kb6 40 (fun j => nI (mm 6 j)), zar b7 kb7 40 (fun j => nI (mm 7 j)), zar b8 kb8 40 (fun j => nI (mm 8 j)), zar b9 kb9 40 (fun j => nI (mm 9 j)), zar b10 kb10 40 (fun j => nI (mm 10 j)), zar b11 kb11 40 (fun j => nI (mm 11 j))] H := by rw [← e_u]; exact hP
                  have hD : va_D A [zob h0 6 [.int (nI mg), .ref b0, .ref b1, .int (nI n), .ref b2, .ref b3, .ref b4, .ref b5, .ref b6, .ref b7, .ref b8, .ref b9, .ref b10, .ref b11, .int (nI rg - nI 1), .int (nI rn), .int (nI ro), .int (nI sp), .int (nI gp), .int (nI fx), .ref b12, .ref b13, .ref b14, .ref b15, .ref b16, .ref b17], zar b0 kb0 8 (fun j => nI (mm 0 j)), zar b1 kb1 8 (fun j => nI (mm 1 j)), zar b2 kb2 40 (fun j => nI (va_up (mm 2) n i j)), zar b3 kb3 40 (fun j => nI (va_up (mm 3) n rn j)), zar b4 kb4 40 (fun j => nI (va_up (mm 4) n a_v j)), zar b5 kb5 40 (fun j => nI (va_up (mm 5) n b_v j)), zar b6 kb6 40 (fun j => nI (mm 6 j)), zar b7 kb7 40 (fun j => nI (mm 7 j)), zar b8 kb8 40 (fun j => nI (mm 8 j)), zar b9 kb9 40 (fun j => nI (mm 9 j)), zar b10 kb10 40 (fun j => nI (mm 10 j)), zar b11 kb11 40 (fun j => nI (mm 11 j))] := by rw [← e_u]; exact hD
                  refine lv_aload_n hx hb dMD_cell_182 rfl (lv_at hl 8 rfl) ?_
                  refine va_get (D := (dC, dI)) (ci := 6) (v := .ref b6) (C := RMD) (T := TMD) (N := 26) hx hb hz in_MD hown hK hP 0 rfl rfl 8 (by decide) (hz _ wd_592) (fun _ h9 => h9) rfl dMD_cell_183 ?_
                  refine lv_iload hx hb dMD_cell_186 (lv_at hl 0 rfl) ?_
                  refine lv_aload_n hx hb dMD_cell_188 rfl (lv_at hl 8 rfl) ?_
                  refine va_get (D := (dC, dI)) (ci := 6) (v := .int (nI rg - nI 1)) (C := RMD) (T := TMD) (N := 26) hx hb hz in_MD hown hK hP 0 rfl rfl 14 (by decide) (hz _ wd_598) (fun _ h9 => h9) rfl dMD_cell_189 ?_
                  refine lv_topi (fun x37 e38 => ?_)
                  have e38 : x37 = nI (rg - 1) := e38.trans (pk_sub (by omega))
                  subst e38
                  refine va_iast hx hb hK hP hD hS 7 6 rfl rfl (vp_in_nI (by omega) (by omega)) dMD_cell_192 (fun H locs hP hD hS => ?_)
                  have e_u := z_upd (f := mm 6) (k := n) (v := rg - 1) (by omega)
                  have hP : va_P (dC, dI) vwCl [zob h0 6 [.int (nI mg), .ref b0, .ref b1, .int (nI n), .ref b2, .ref b3, .ref b4, .ref b5, .ref b6, .ref b7, .ref b8, .ref b9, .ref b10, .ref b11, .int (nI rg - nI 1), .int (nI rn), .int (nI ro), .int (nI sp), .int (nI gp), .int (nI fx), .ref b12, .ref b13, .ref b14, .ref b15, .ref b16, .ref b17], zar b0 kb0 8 (fun j => nI (mm 0 j)), zar b1 kb1 8 (fun j => nI (mm 1 j)), zar b2 kb2 40 (fun j => nI (va_up (mm 2) n i j)), zar b3 kb3 40 (fun j => nI (va_up (mm 3) n rn j)), zar b4 kb4 40 (fun j => nI (va_up (mm 4) n a_v j)), zar b5 kb5 40 (fun j => nI (va_up (mm 5) n b_v j)), zar b6 kb6 40 (fun j => nI (va_up (mm 6) n (rg - 1) j)), zar b7 kb7 40 (fun j => nI (mm 7 j)), zar b8 kb8 40 (fun j => nI (mm 8 j)), zar b9 kb9 40 (fun j => nI (mm 9 j)), zar b10 kb10 40 (fun j => nI (mm 10 j)), zar b11 kb11 40 (fun j => nI (mm 11 j))] H := by rw [← e_u]; exact hP
                  have hD : va_D A [zob h0 6 [.int (nI mg), .ref b0, .ref b1, .int (nI n), .ref b2, .ref b3, .ref b4, .ref b5, .ref b6, .ref b7, .ref b8, .ref b9, .ref b10, .ref b11, .int (nI rg - nI 1), .int (nI rn), .int (nI ro), .int (nI sp), .int (nI gp), .int (nI fx), .ref b12, .ref b13, .ref b14, .ref b15, .ref b16, .ref b17], zar b0 kb0 8 (fun j => nI (mm 0 j)), zar b1 kb1 8 (fun j => nI (mm 1 j)), zar b2 kb2 40 (fun j => nI (va_up (mm 2) n i j)), zar b3 kb3 40 (fun j => nI (va_up (mm 3) n rn j)), zar b4 kb4 40 (fun j => nI (va_up (mm 4) n a_v j)), zar b5 kb5 40 (fun j => nI (va_up (mm 5) n b_v j)), zar b6 kb6 40 (fun j => nI (va_up (mm 6) n (rg - 1) j)), zar b7 kb7 40 (fun j => nI (mm 7 j)), zar b8 kb8 40 (fun j => nI (mm 8 j)), zar b9 kb9 40 (fun j => nI (mm 9 j)), zar b10 kb10 40 (fun j => nI (mm 10 j)), zar b11 kb11 40 (fun j => nI (mm 11 j))] := by rw [← e_u]; exact hD
                  refine lv_aload_n hx hb dMD_cell_193 rfl (lv_at hl 8 rfl) ?_
                  refine va_get (D := (dC, dI)) (ci := 6) (v := .ref b7) (C := RMD) (T := TMD) (N := 26) hx hb hz in_MD hown hK hP 0 rfl rfl 9 (by decide) (hz _ wd_593) (fun _ h9 => h9) rfl dMD_cell_194 ?_
                  refine lv_iload hx hb dMD_cell_197 (lv_at hl 0 rfl) ?_
                  refine lv_iload_n hx hb dMD_cell_199 rfl (lv_at hl 5 rfl) ?_
                  refine va_iast hx hb hK hP hD hS 8 7 rfl rfl (vp_in_nI (by omega) (by omega)) dMD_cell_200 (fun H locs hP hD hS => ?_)
                  have e_u := z_upd (f := mm 7) (k := n) (v := c1_v) (by omega)
                  have hP : va_P (dC, dI) vwCl [zob h0 6 [.int (nI mg), .ref b0, .ref b1, .int (nI n), .ref b2, .ref b3, .ref b4, .ref b5, .ref b6, .ref b7, .ref b8, .ref b9, .ref b10, .ref b11, .int (nI rg - nI 1), .int (nI rn), .int (nI ro), .int (nI sp), .int (nI gp), .int (nI fx), .ref b12, .ref b13, .ref b14, .ref b15, .ref b16, .ref b17], zar b0 kb0 8 (fun j => nI (mm 0 j)), zar b1 kb1 8 (fun j => nI (mm 1 j)), zar b2 kb2 40 (fun j => nI (va_up (mm 2) n i j)), zar b3 kb3 40 (fun j => nI (va_up (mm 3) n rn j)), zar b4 kb4 40 (fun j => nI (va_up (mm 4) n a_v j)), zar b5 kb5 40 (fun j => nI (va_up (mm 5) n b_v j)), zar b6 kb6 40 (fun j => nI (va_up (mm 6) n (rg - 1) j)), zar b7 kb7 40 (fun j => nI (va_up (mm 7) n c1_v j)), zar b8 kb8 40 (fun j => nI (mm 8 j)), zar b9 kb9 40 (fun j => nI (mm 9 j)), zar b10 kb10 40 (fun j => nI (mm 10 j)), zar b11 kb11 40 (fun j => nI (mm 11 j))] H := by rw [← e_u]; exact hP
                  have hD : va_D A [zob h0 6 [.int (nI mg), .ref b0, .ref b1, .int (nI n), .ref b2, .ref b3, .ref b4, .ref b5, .ref b6, .ref b7, .ref b8, .ref b9, .ref b10, .ref b11, .int (nI rg - nI 1), .int (nI rn), .int (nI ro), .int (nI sp), .int (nI gp), .int (nI fx), .ref b12, .ref b13, .ref b14, .ref b15, .ref b16, .ref b17], zar b0 kb0 8 (fun j => nI (mm 0 j)), zar b1 kb1 8 (fun j => nI (mm 1 j)), zar b2 kb2 40 (fun j => nI (va_up (mm 2) n i j)), zar b3 kb3 40 (fun j => nI (va_up (mm 3) n rn j)), zar b4 kb4 40 (fun j => nI (va_up (mm 4) n a_v j)), zar b5 kb5 40 (fun j => nI (va_up (mm 5) n b_v j)), zar b6 kb6 40 (fun j => nI (va_up (mm 6) n (rg - 1) j)), zar b7 kb7 40 (fun j => nI (va_up (mm 7) n c1_v j)), zar b8 kb8 40 (fun j => nI (mm 8 j)), zar b9 kb9 40 (fun j => nI (mm 9 j)), zar b10 kb10 40 (fun j => nI (mm 10 j)), zar b11 kb11 40 (fun j => nI (mm 11 j))] := by rw [← e_u]; exact hD
                  refine lv_aload_n hx hb dMD_cell_201 rfl (lv_at hl 8 rfl) ?_
                  refine va_get (D := (dC, dI)) (ci := 6) (v := .ref b8) (C := RMD) (T := TMD) (N := 26) hx hb hz in_MD hown hK hP 0 rfl rfl 10 (by decide) (hz _ wd_594) (fun _ h9 => h9) rfl dMD_cell_202 ?_
                  refine lv_iload hx hb dMD_cell_205 (lv_at hl 0 rfl) ?_
                  refine lv_iload hx hb dMD_cell_207 (lv_at hl 4 rfl) ?_
                  refine va_iast hx hb hK hP hD hS 9 8 rfl rfl (vp_in_nI (by omega) (by omega)) dMD_cell_209 (fun H locs hP hD hS => ?_)
                  have e_u := z_upd (f := mm 8) (k := n) (v := d1_v) (by omega)
                  have hP : va_P (dC, dI) vwCl [zob h0 6 [.int (nI mg), .ref b0, .ref b1, .int (nI n), .ref b2, .ref b3, .ref b4, .ref b5, .ref b6, .ref b7, .ref b8, .ref b9, .ref b10, .ref b11, .int (nI rg - nI 1), .int (nI rn), .int (nI ro), .int (nI sp), .int (nI gp), .int (nI fx), .ref b12, .ref b13, .ref b14, .ref b15, .ref b16, .ref b17], zar b0 kb0 8 (fun j => nI (mm 0 j)), zar b1 kb1 8 (fun j => nI (mm 1 j)), zar b2 kb2 40 (fun j => nI (va_up (mm 2) n i j)), zar b3 kb3 40 (fun j => nI (va_up (mm 3) n rn j)), zar b4 kb4 40 (fun j => nI (va_up (mm 4) n a_v j)), zar b5 kb5 40 (fun j => nI (va_up (mm 5) n b_v j)), zar b6 kb6 40 (fun j => nI (va_up (mm 6) n (rg - 1) j)), zar b7 kb7 40 (fun j => nI (va_up (mm 7) n c1_v j)), zar b8 kb8 40 (fun j => nI (va_up (mm 8) n d1_v j)), zar b9 kb9 40 (fun j => nI (mm 9 j)), zar b10 kb10 40 (fun j => nI (mm 10 j)), zar b11 kb11 40 (fun j => nI (mm 11 j))] H := by rw [← e_u]; exact hP
                  have hD : va_D A [zob h0 6 [.int (nI mg), .ref b0, .ref b1, .int (nI n), .ref b2, .ref b3, .ref b4, .ref b5, .ref b6, .ref b7, .ref b8, .ref b9, .ref b10, .ref b11, .int (nI rg - nI 1), .int (nI rn), .int (nI ro), .int (nI sp), .int (nI gp), .int (nI fx), .ref b12, .ref b13, .ref b14, .ref b15, .ref b16, .ref b17], zar b0 kb0 8 (fun j => nI (mm 0 j)), zar b1 kb1 8 (fun j => nI (mm 1 j)), zar b2 kb2 40 (fun j => nI (va_up (mm 2) n i j)), zar b3 kb3 40 (fun j => nI (va_up (mm 3) n rn j)), zar b4 kb4 40 (fun j => nI (va_up (mm 4) n a_v j)), zar b5 kb5 40 (fun j => nI (va_up (mm 5) n b_v j)), zar b6 kb6 40 (fun j => nI (va_up (mm 6) n (rg - 1) j)), zar b7 kb7 40 (fun j => nI (va_up (mm 7) n c1_v j)), zar b8 kb8 40 (fun j => nI (va_up (mm 8) n d1_v j)), zar b9 kb9 40 (fun j => nI (mm 9 j)), zar b10 kb10 40 (fun j => nI (mm 10 j)), zar b11 kb11 40 (fun j => nI (mm 11 j))] := by rw [← e_u]; exact hD
                  refine lv_aload_n hx hb dMD_cell_210 rfl (lv_at hl 8 rfl) ?_
                  refine va_get (D := (dC, dI)) (ci := 6) (v := .ref b9) (C := RMD) (T := TMD) (N := 26) hx hb hz in_MD hown hK hP 0 rfl rfl 11 (by decide) (hz _ wd_595) (fun _ h9 => h9) rfl dMD_cell_211 ?_
                  refine lv_iload hx hb dMD_cell_214 (lv_at hl 0 rfl) ?_
                  refine lv_iload hx hb dMD_cell_216 (lv_at hl 3 rfl) ?_
                  refine va_iast hx hb hK hP hD hS 10 9 rfl rfl (vp_in_nI (by omega) (by omega)) dMD_cell_218 (fun H locs hP hD hS => ?_)
                  have e_u := z_upd (f := mm 9) (k := n) (v := e1_v) (by omega)
                  have hP : va_P (dC, dI) vwCl [zob h0 6 [.int (nI mg), .ref b0, .ref b1, .int (nI n), .ref b2, .ref b3, .ref b4, .ref b5, .ref b6, .ref b7, .ref b8, .ref b9, .ref b10, .ref b11, .int (nI rg - nI 1), .int (nI rn), .int (nI ro), .int (nI sp), .int (nI gp), .int (nI fx), .ref b12, .ref b13, .ref b14, .ref b15, .ref b16, .ref b17], zar b0 kb0 8 (fun j => nI (mm 0 j)), zar b1 kb1 8 (fun j => nI (mm 1 j)), zar b2 kb2 40 (fun j => nI (va_up (mm 2) n i j)), zar b3 kb3 40 (fun j => nI (va_up (mm 3) n rn j)), zar b4 kb4 40 (fun j => nI (va_up (mm 4) n a_v j)), zar b5 kb5 40 (fun j => nI (va_up (mm 5) n b_v j)), zar b6 kb6 40 (fun j => nI (va_up (mm 6) n (rg - 1) j)), zar b7 kb7 40 (fun j => nI (va_up (mm 7) n c1_v j)), zar b8 kb8 40 (fun j => nI (va_up (mm 8) n d1_v j)), zar b9 kb9 40 (fun j => nI (va_up (mm 9) n e1_v j)), zar b10 kb10 40 (fun j => nI (mm 10 j)), zar b11 kb11 40 (fun j => nI (mm 11 j))] H := by rw [← e_u]; exact hP
                  have hD : va_D A [zob h0 6 [.int (nI mg), .ref b0, .ref b1, .int (nI n), .ref b2, .ref b3, .ref b4, .ref b5, .ref b6, .ref b7, .ref b8, .ref b9, .ref b10, .ref b11, .int (nI rg - nI 1), .int (nI rn), .int (nI ro), .int (nI sp), .int (nI gp), .int (nI fx), .ref b12, .ref b13, .ref b14, .ref b15, .ref b16, .ref b17], zar b0 kb0 8 (fun j => nI (mm 0 j)), zar b1 kb1 8 (fun j => nI (mm 1 j)), zar b2 kb2 40 (fun j => nI (va_up (mm 2) n i j)), zar b3 kb3 40 (fun j => nI (va_up (mm 3) n rn j)), zar b4 kb4 40 (fun j => nI (va_up (mm 4) n a_v j)), zar b5 kb5 40 (fun j => nI (va_up (mm 5) n b_v j)), zar b6 kb6 40 (fun j => nI (va_up (mm 6) n (rg - 1) j)), zar b7 kb7 40 (fun j => nI (va_up (mm 7) n c1_v j)), zar b8 kb8 40 (fun j => nI (va_up (mm 8) n d1_v j)), zar b9 kb9 40 (fun j => nI (va_up (mm 9) n e1_v j)), zar b10 kb10 40 (fun j => nI (mm 10 j)), zar b11 kb11 40 (fun j => nI (mm 11 j))] := by rw [← e_u]; exact hD
                  refine lv_aload_n hx hb dMD_cell_219 rfl (lv_at hl 8 rfl) ?_
                  refine va_get (D := (dC, dI)) (ci := 6) (v := .ref b10) (C := RMD) (T := TMD) (N := 26) hx hb hz in_MD hown hK hP 0 rfl rfl 12 (by decide) (hz _ wd_596) (fun _ h9 => h9) rfl dMD_cell_220 ?_
                  refine lv_iload hx hb dMD_cell_223 (lv_at hl 0 rfl) ?_
                  refine lv_iconst (v := nI 0) hx hb dMD_cell_225 (by decide) ?_
                  refine va_iast hx hb hK hP hD hS 11 10 rfl rfl (vp_in_nI (by omega) (by omega)) dMD_cell_226 (fun H locs hP hD hS => ?_)
                  have e_u := z_upd (f := mm 10) (k := n) (v := 0) (by omega)
                  have hP : va_P (dC, dI) vwCl [zob h0 6 [.int (nI mg), .ref b0, .ref b1, .int (nI n), .ref b2, .ref b3, .ref b4, .ref b5, .ref b6, .ref b7, .ref b8, .ref b9, .ref b10, .ref b11, .int (nI rg - nI 1), .int (nI rn), .int (nI ro), .int (nI sp), .int (nI gp), .int (nI fx), .ref b12, .ref b13, .ref b14, .ref b15, .ref b16, .ref b17], zar b0 kb0 8 (fun j => nI (mm 0 j)), zar b1 kb1 8 (fun j => nI (mm 1 j)), zar b2 kb2 40 (fun j => nI (va_up (mm 2) n i j)), zar b3 kb3 40 (fun j => nI (va_up (mm 3) n rn j)), zar b4 kb4 40 (fun j => nI (va_up (mm 4) n a_v j)), zar b5 kb5 40 (fun j => nI (va_up (mm 5) n b_v j)), zar b6 kb6 40 (fun j => nI (va_up (mm 6) n (rg - 1) j)), zar b7 kb7 40 (fun j => nI (va_up (mm 7) n c1_v j)), zar b8 kb8 40 (fun j => nI (va_up (mm 8) n d1_v j)), zar b9 kb9 40 (fun j => nI (va_up (mm 9) n e1_v j)), zar b10 kb10 40 (fun j => nI (va_up (mm 10) n 0 j)), zar b11 kb11 40 (fun j => nI (mm 11 j))] H := by rw [← e_u]; exact hP
                  have hD : va_D A [zob h0 6 [.int (nI mg), .ref b0, .ref b1, .int (nI n), .ref b2, .ref b3, .ref b4, .ref b5, .ref b6, .ref b7, .ref b8, .ref b9, .ref b10, .ref b11, .int (nI rg - nI 1), .int (nI rn), .int (nI ro), .int (nI sp), .int (nI gp), .int (nI fx), .ref b12, .ref b13, .ref b14, .ref b15, .ref b16, .ref b17], zar b0 kb0 8 (fun j => nI (mm 0 j)), zar b1 kb1 8 (fun j => nI (mm 1 j)), zar b2 kb2 40 (fun j => nI (va_up (mm 2) n i j)), zar b3 kb3 40 (fun j => nI (va_up (mm 3) n rn j)), zar b4 kb4 40 (fun j => nI (va_up (mm 4) n a_v j)), zar b5 kb5 40 (fun j => nI (va_up (mm 5) n b_v j)), zar b6 kb6 40 (fun j => nI (va_up (mm 6) n (rg - 1) j)), zar b7 kb7 40 (fun j => nI (va_up (mm 7) n c1_v j)), zar b8 kb8 40 (fun j => nI (va_up (mm 8) n d1_v j)), zar b9 kb9 40 (fun j => nI (va_up (mm 9) n e1_v j)), zar b10 kb10 40 (fun j => nI (va_up (mm 10) n 0 j)), zar b11 kb11 40 (fun j => nI (mm 11 j))] := by rw [← e_u]; exact hD
                  refine lv_aload_n hx hb dMD_cell_227 rfl (lv_at hl 8 rfl) ?_
                  refine va_get (D := (dC, dI)) (ci := 6) (v := .ref b11) (C := RMD) (T := TMD) (N := 26) hx hb hz in_MD hown hK hP 0 rfl rfl 13 (by decide) (hz _ wd_597) (fun _ h9 => h9) rfl dMD_cell_228 ?_
                  refine lv_iload hx hb dMD_cell_231 (lv_at hl 0 rfl) ?_
                  refine lv_iconst (v := nI 0) hx hb dMD_cell_233 (by decide) ?_
                  refine va_iast hx hb hK hP hD hS 12 11 rfl rfl (vp_in_nI (by omega) (by omega)) dMD_cell_234 (fun H locs hP hD hS => ?_)
                  have e_u := z_upd (f := mm 11) (k := n) (v := 0) (by omega)
                  have hP : va_P (dC, dI) vwCl [zob h0 6 [.int (nI mg), .ref b0, .ref b1, .int (nI n), .ref b2, .ref b3, .ref b4, .ref b5, .ref b6, .ref b7, .ref b8, .ref b9, .ref b10, .ref b11, .int (nI rg - nI 1), .int (nI rn), .int (nI ro), .int (nI sp), .int (nI gp), .int (nI fx), .ref b12, .ref b13, .ref b14, .ref b15, .ref b16, .ref b17], zar b0 kb0 8 (fun j => nI (mm 0 j)), zar b1 kb1 8 (fun j => nI (mm 1 j)), zar b2 kb2 40 (fun j => nI (va_up (mm 2) n i j)), zar b3 kb3 40 (fun j => nI (va_up (mm 3) n rn j)), zar b4 kb4 40 (fun j => nI (va_up (mm 4) n a_v j)), zar b5 kb5 40 (fun j => nI (va_up (mm 5) n b_v j)), zar b6 kb6 40 (fun j => nI (va_up (mm 6) n (rg - 1) j)), zar b7 kb7 40 (fun j => nI (va_up (mm 7) n c1_v j)), zar b8 kb8 40 (fun j => nI (va_up (mm 8) n d1_v j)), zar b9 kb9 40 (fun j => nI (va_up (mm 9) n e1_v j)), zar b10 kb10 40 (fun j => nI (va_up (mm 10) n 0 j)), zar b11 kb11 40 (fun j => nI (va_up (mm 11) n 0 j))] H := by rw [← e_u]; exact hP
                  have hD : va_D A [zob h0 6 [.int (nI mg), .ref b0, .ref b1, .int (nI n), .ref b2, .ref b3, .ref b4, .ref b5, .ref b6, .ref b7, .ref b8, .ref b9, .ref b10, .ref b11, .int (nI rg - nI 1), .int (nI rn), .int (nI ro), .int (nI sp), .int (nI gp), .int (nI fx), .ref b12, .ref b13, .ref b14, .ref b15, .ref b16, .ref b17], zar b0 kb0 8 (fun j => nI (mm 0 j)), zar b1 kb1 8 (fun j => nI (mm 1 j)), zar b2 kb2 40 (fun j => nI (va_up (mm 2) n i j)), zar b3 kb3 40 (fun j => nI (va_up (mm 3) n rn j)), zar b4 kb4 40 (fun j => nI (va_up (mm 4) n a_v j)), zar b5 kb5 40 (fun j => nI (va_up (mm 5) n b_v j)), zar b6 kb6 40 (fun j => nI (va_up (mm 6) n (rg - 1) j)), zar b7 kb7 40 (fun j => nI (va_up (mm 7) n c1_v j)), zar b8 kb8 40 (fun j => nI (va_up (mm 8) n d1_v j)), zar b9 kb9 40 (fun j => nI (va_up (mm 9) n e1_v j)), zar b10 kb10 40 (fun j => nI (va_up (mm 10) n 0 j)), zar b11 kb11 40 (fun j => nI (va_up (mm 11) n 0 j))] := by rw [← e_u]; exact hD
                  refine lv_aload_n hx hb dMD_cell_235 rfl (lv_at hl 8 rfl) ?_
                  refine lv_iload hx hb dMD_cell_236 (lv_at hl 1 rfl) ?_
                  refine lv_iload_n hx hb dMD_cell_238 rfl (lv_at hl 7 rfl) ?_
                  refine lv_iadd hx hb dMD_cell_239 ?_
                  refine lv_topi (fun x39 e40 => ?_)
                  have e40 : x39 = nI (i + a_v) := e40.trans (nI_add _ _)
                  subst e40
                  refine va_put (D := (dC, dI)) (ci := 6) (v := .int (nI (i + a_v))) (ty := .int) (C := RMD) (T := TMD) (N := 26) hx hb hz in_MD tyMD tokMD nokMD hown hK hP hD hS 0 rfl rfl 16 (by decide) (hz _ wd_600) (fun _ h9 => h9) rfl (by decide +kernel) rfl rfl (Nat.le_of_ble_eq_true rfl) dMD_cell_240 (fun H locs hP hD hS => ?_)
                  have hP : va_P (dC, dI) vwCl [zob h0 6 [.int (nI mg), .ref b0, .ref b1, .int (nI n), .ref b2, .ref b3, .ref b4, .ref b5, .ref b6, .ref b7, .ref b8, .ref b9, .ref b10, .ref b11, .int (nI rg - nI 1), .int (nI rn), .int (nI (i + a_v)), .int (nI sp), .int (nI gp), .int (nI fx), .ref b12, .ref b13, .ref b14, .ref b15, .ref b16, .ref b17], zar b0 kb0 8 (fun j => nI (mm 0 j)), zar b1 kb1 8 (fun j => nI (mm 1 j)), zar b2 kb2 40 (fun j => nI (va_up (mm 2) n i j)), zar b3 kb3 40 (fun j => nI (va_up (mm 3) n rn j)), zar b4 kb4 40 (fun j => nI (va_up (mm 4) n a_v j)), zar b5 kb5 40 (fun j => nI (va_up (mm 5) n b_v j)), zar b6 kb6 40 (fun j => nI (va_up (mm 6) n (rg - 1) j)), zar b7 kb7 40 (fun j => nI (va_up (mm 7) n c1_v j)), zar b8 kb8 40 (fun j => nI (va_up (mm 8) n d1_v j)), zar b9 kb9 40 (fun j => nI (va_up (mm 9) n e1_v j)), zar b10 kb10 40 (fun j => nI (va_up (mm 10) n 0 j)), zar b11 kb11 40 (fun j => nI (va_up (mm 11) n 0 j))] H := hP
                  have hD : va_D A [zob h0 6 [.int (nI mg), .ref b0, .ref b1, .int (nI n), .ref b2, .ref b3, .ref b4, .ref b5, .ref b6, .ref b7, .ref b8, .ref b9, .ref b10, .ref b11, .int (nI rg - nI 1), .int (nI rn), .int (nI (i + a_v)), .int (nI sp), .int (nI gp), .int (nI fx), .ref b12, .ref b13, .ref b14, .ref b15, .ref b16, .ref b17], zar b0 kb0 8 (fun j => nI (mm 0 j)), zar b1 kb1 8 (fun j => nI (mm 1 j)), zar b2 kb2 40 (fun j => nI (va_up (mm 2) n i j)), zar b3 kb3 40 (fun j => nI (va_up (mm 3) n rn j)), zar b4 kb4 40 (fun j => nI (va_up (mm 4) n a_v j)), zar b5 kb5 40 (fun j => nI (va_up (mm 5) n b_v j)), zar b6 kb6 40 (fun j => nI (va_up (mm 6) n (rg - 1) j)), zar b7 kb7 40 (fun j => nI (va_up (mm 7) n c1_v j)), zar b8 kb8 40 (fun j => nI (va_up (mm 8) n d1_v j)), zar b9 kb9 40 (fun j => nI (va_up (mm 9) n e1_v j)), zar b10 kb10 40 (fun j => nI (va_up (mm 10) n 0 j)), zar b11 kb11 40 (fun j => nI (va_up (mm 11) n 0 j))] := hD
                  refine lv_aload_n hx hb dMD_cell_243 rfl (lv_at hl 8 rfl) ?_
                  refine lv_aload_n hx hb dMD_cell_244 rfl (lv_at hl 8 rfl) ?_
                  refine va_get (D := (dC, dI)) (ci := 6) (v := .int (nI n)) (C := RMD) (T := TMD) (N := 26) hx hb hz in_MD hown hK hP 0 rfl rfl 3 (by decide) (hz _ wd_587) (fun _ h9 => h9) rfl dMD_cell_245 ?_
                  refine lv_iconst (v := nI 1) hx hb dMD_cell_248 (by decide) ?_
                  refine lv_iadd hx hb dMD_cell_249 ?_
                  refine lv_topi (fun x41 e42 => ?_)
                  have e42 : x41 = nI (n + 1) := e42.trans (nI_add _ _)
                  subst e42
                  refine va_put (D := (dC, dI)) (ci := 6) (v := .int (nI (n + 1))) (ty := .int) (C := RMD) (T := TMD) (N := 26) hx hb hz in_MD tyMD tokMD nokMD hown hK hP hD hS 0 rfl rfl 3 (by decide) (hz _ wd_587) (fun _ h9 => h9) rfl (by decide +kernel) rfl rfl (Nat.le_of_ble_eq_true rfl) dMD_cell_250 (fun H locs hP hD hS => ?_)
                  have hP : va_P (dC, dI) vwCl [zob h0 6 [.int (nI mg), .ref b0, .ref b1, .int (nI (n + 1)), .ref b2, .ref b3, .ref b4, .ref b5, .ref b6, .ref b7, .ref b8, .ref b9, .ref b10, .ref b11, .int (nI rg - nI 1), .int (nI rn), .int (nI (i + a_v)), .int (nI sp), .int (nI gp), .int (nI fx), .ref b12, .ref b13, .ref b14, .ref b15, .ref b16, .ref b17], zar b0 kb0 8 (fun j => nI (mm 0 j)), zar b1 kb1 8 (fun j => nI (mm 1 j)), zar b2 kb2 40 (fun j => nI (va_up (mm 2) n i j)), zar b3 kb3 40 (fun j => nI (va_up (mm 3) n rn j)), zar b4 kb4 40 (fun j => nI (va_up (mm 4) n a_v j)), zar b5 kb5 40 (fun j => nI (va_up (mm 5) n b_v j)), zar b6 kb6 40 (fun j => nI (va_up (mm 6) n (rg - 1) j)), zar b7 kb7 40 (fun j => nI (va_up (mm 7) n c1_v j)), zar b8 kb8 40 (fun j => nI (va_up (mm 8) n d1_v j)), zar b9 kb9 40 (fun j => nI (va_up (mm 9) n e1_v j)), zar b10 kb10 40 (fun j => nI (va_up (mm 10) n 0 j)), zar b11 kb11 40 (fun j => nI (va_up (mm 11) n 0 j))] H := hP
                  have hD : va_D A [zob h0 6 [.int (nI mg), .ref b0, .ref b1, .int (nI (n + 1)), .ref b2, .ref b3, .ref b4, .ref b5, .ref b6, .ref b7, .ref b8, .ref b9, .ref b10, .ref b11, .int (nI rg - nI 1), .int (nI rn), .int (nI (i + a_v)), .int (nI sp), .int (nI gp), .int (nI fx), .ref b12, .ref b13, .ref b14, .ref b15, .ref b16, .ref b17], zar b0 kb0 8 (fun j => nI (mm 0 j)), zar b1 kb1 8 (fun j => nI (mm 1 j)), zar b2 kb2 40 (fun j => nI (va_up (mm 2) n i j)), zar b3 kb3 40 (fun j => nI (va_up (mm 3) n rn j)), zar b4 kb4 40 (fun j => nI (va_up (mm 4) n a_v j)), zar b5 kb5 40 (fun j => nI (va_up (mm 5) n b_v j)), zar b6 kb6 40 (fun j => nI (va_up (mm 6) n (rg - 1) j)), zar b7 kb7 40 (fun j => nI (va_up (mm 7) n c1_v j)), zar b8 kb8 40 (fun j => nI (va_up (mm 8) n d1_v j)), zar b9 kb9 40 (fun j => nI (va_up (mm 9) n e1_v j)), zar b10 kb10 40 (fun j => nI (va_up (mm 10) n 0 j)), zar b11 kb11 40 (fun j => nI (va_up (mm 11) n 0 j))] := hD
                  refine lv_iload hx hb dMD_cell_253 (lv_at hl 0 rfl) ?_
                  subst hQ
                  exact zw_iret (D := (dC, dI)) (cl := vwCl) (A := A) (n + 1, i + a_v, zmPt mm n i rn a_v b_v (rg - 1) c1_v d1_v e1_v) hx hb hr hlocks (Or.inr ⟨⟨h_g2, by omega, by omega⟩, i, a_v, b_v, c1_v, d1_v, e1_v, ⟨by omega, by omega, by omega, by omega, by omega⟩, ⟨by omega, by omega, hxI, fun _ => h_b⟩, rfl, rfl, rfl, rfl, rfl, Or.inr ⟨by omega, rfl, rfl, rfl, rfl⟩⟩) (hP.sub [0, 1, 2, 3, 4, 5, 6, 7, 8, 9, 10, 11, 12] rfl) (hK.sub [] rfl) (hD.sub [0, 1, 2, 3, 4, 5, 6, 7, 8, 9, 10, 11, 12] (by decide) rfl) hS dMD_cell_255
                · have h36 := z_nle h36
                  refine lv_iconst (v := (-1)) hx hb dMD_cell_138 (by decide) ?_
                  subst hQ
                  exact zw_iret (D := (dC, dI)) (cl := vwCl) (A := A) (n, ro, mm) hx hb hr hlocks (Or.inr ⟨⟨h_g2, by omega, by omega⟩, i, a_v, b_v, c1_v, d1_v, e1_v, ⟨by omega, by omega, by omega, by omega, by omega⟩, ⟨by omega, by omega, hxI, fun _ => h_b⟩, rfl, rfl, rfl, rfl, rfl, Or.inl ⟨by omega, rfl, rfl, rfl, rfl⟩⟩) (hP.sub [0, 1, 2, 3, 4, 5, 6, 7, 8, 9, 10, 11, 12] rfl) (hK.sub [] rfl) (hD.sub [0, 1, 2, 3, 4, 5, 6, 7, 8, 9, 10, 11, 12] (by decide) rfl) hS dMD_cell_139
            · have h_b := z_yT h_rb h_b
              refine lv_iload hx hb dMD_cell_109 (lv_at hl 0 rfl) ?_
              refine lv_iconst (v := nI 1) hx hb dMD_cell_111 (by decide) ?_
              refine lv_iadd hx hb dMD_cell_112 ?_
              refine lv_topi (fun x43 e44 => ?_)
              have e44 : x43 = nI (i + 1) := e44.trans (nI_add _ _)
              subst e44
              refine lv_istore hx hb dMD_cell_113 hl (Nat.le_of_ble_eq_true rfl) rfl (fun ls hl => ?_)
              have hl : lv_has ls 9 [(7, .int (nI (i + 1))), (6, .int v1), (5, .int (nI e1_v)), (4, .int (nI d1_v)), (3, .int (nI c1_v)), (2, .int (nI b_v)), (1, .int (nI a_v)), (0, .ref h0)] := hl
              refine lv_goto (tgt := 93) hx hb dMD_cell_115 rfl ?_
              exact ih () ls ⟨lv_sub hl [0, 1, 2, 3, 4, 5, 6, 7] rfl, by omega, z_lts hxI h_b⟩
        · have h_n := z_eq h_n
          refine lv_iconst (v := (-1)) hx hb dMD_cell_85 (by decide) ?_
          subst hQ
          exact zw_iret (D := (dC, dI)) (cl := vwCl) (A := A) (n, ro, mm) hx hb hr hlocks (Or.inl ⟨fun h9 => by have := h9.2.2; omega, rfl, rfl, rfl, rfl⟩) (hP.sub [0, 1, 2, 3, 4, 5, 6, 7, 8, 9, 10, 11, 12] rfl) (hK.sub [] rfl) (hD.sub [0, 1, 2, 3, 4, 5, 6, 7, 8, 9, 10, 11, 12] (by decide) rfl) hS dMD_cell_86
  · refine lv_iload_n hx hb dMD_cell_0 rfl (lv_at hl 1 rfl) ?_
    have t45 : (0 : Int32).toInt = 0 := by decide
    refine lv_if_le (tgt := 55) hx hb dMD_cell_1 rfl (fun h46 => ?_) (fun h46 => ?_)
    · have h46 := z_le h46
      refine lv_iconst (v := nI 0) hx hb dMD_cell_55 (by decide) ?_
      exact J56 _ (z_y0 (show ¬ (_ ∧ _) by omega))
    · have h46 := z_nle h46
      refine lv_iload_n hx hb dMD_cell_4 rfl (lv_at hl 1 rfl) ?_
      refine lv_bipush (v := nI 7) hx hb dMD_cell_5 (by decide) ?_
      have t47 := nI_toInt (n := 7) (by omega)
      refine lv_icmp_ge (tgt := 55) hx hb dMD_cell_7 rfl (fun h48 => ?_) (fun h48 => ?_)
      · have h48 := z_le h48
        refine lv_iconst (v := nI 0) hx hb dMD_cell_55 (by decide) ?_
        exact J56 _ (z_y0 (show ¬ (_ ∧ _) by omega))
      · have h48 := z_nle h48
        refine lv_iload_n hx hb dMD_cell_10 rfl (lv_at hl 2 rfl) ?_
        have t49 : (0 : Int32).toInt = 0 := by decide
        refine lv_if_lt (tgt := 55) hx hb dMD_cell_11 rfl (fun h50 => ?_) (fun h50 => ?_)
        · have h50 := z_lt h50
          refine lv_iconst (v := nI 0) hx hb dMD_cell_55 (by decide) ?_
          exact J56 _ (z_y0 (show ¬ (_ ∧ _) by omega))
        · have h50 := z_nlt h50
          refine lv_iload_n hx hb dMD_cell_14 rfl (lv_at hl 2 rfl) ?_
          refine lv_bipush (v := nI 7) hx hb dMD_cell_15 (by decide) ?_
          have t51 := nI_toInt (n := 7) (by omega)
          refine lv_icmp_ge (tgt := 55) hx hb dMD_cell_17 rfl (fun h52 => ?_) (fun h52 => ?_)
          · have h52 := z_le h52
            refine lv_iconst (v := nI 0) hx hb dMD_cell_55 (by decide) ?_
            exact J56 _ (z_y0 (show ¬ (_ ∧ _) by omega))
          · have h52 := z_nle h52
            refine lv_iload_n hx hb dMD_cell_20 rfl (lv_at hl 3 rfl) ?_
            have t53 : (0 : Int32).toInt = 0 := by decide
            refine lv_if_lt (tgt := 55) hx hb dMD_cell_21 rfl (fun h54 => ?_) (fun h54 => ?_)
            · have h54 := z_lt h54
              refine lv_iconst (v := nI 0) hx hb dMD_cell_55 (by decide) ?_
              exact J56 _ (z_y0 (show ¬ (_ ∧ _) by omega))
            · have h54 := z_nlt h54
              refine lv_iload_n hx hb dMD_cell_24 rfl (lv_at hl 3 rfl) ?_
              refine lv_iload hx hb dMD_cell_25 (lv_at hl 4 rfl) ?_
              refine lv_icmp_gt (tgt := 55) hx hb dMD_cell_27 rfl (fun h55 => ?_) (fun h55 => ?_)
              · have h55 := z_lt h55
                refine lv_iconst (v := nI 0) hx hb dMD_cell_55 (by decide) ?_
                exact J56 _ (z_y0 (show ¬ (_ ∧ _) by omega))
              · have h55 := z_nlt h55
                refine lv_iload hx hb dMD_cell_30 (lv_at hl 4 rfl) ?_
                refine lv_sipush (v := nI 1000) hx hb dMD_cell_32 (by decide) ?_
                have t56 := nI_toInt (n := 1000) (by omega)
                refine lv_icmp_gt (tgt := 55) hx hb dMD_cell_35 rfl (fun h57 => ?_) (fun h57 => ?_)
                · have h57 := z_lt h57
                  refine lv_iconst (v := nI 0) hx hb dMD_cell_55 (by decide) ?_
                  exact J56 _ (z_y0 (show ¬ (_ ∧ _) by omega))
                · have h57 := z_nlt h57
                  refine lv_iload hx hb dMD_cell_38 (lv_at hl 5 rfl) ?_
                  have t58 : (0 : Int32).toInt = 0 := by decide
                  refine lv_if_lt (tgt := 55) hx hb dMD_cell_40 rfl (fun h59 => ?_) (fun h59 => ?_)
                  · have h59 := z_lt h59
                    refine lv_iconst (v := nI 0) hx hb dMD_cell_55 (by decide) ?_
                    exact J56 _ (z_y0 (show ¬ (_ ∧ _) by omega))
                  · have h59 := z_nlt h59
                    refine lv_iload hx hb dMD_cell_43 (lv_at hl 5 rfl) ?_
                    refine lv_sipush (v := nI 1000) hx hb dMD_cell_45 (by decide) ?_
                    have t60 := nI_toInt (n := 1000) (by omega)
                    refine lv_icmp_gt (tgt := 55) hx hb dMD_cell_48 rfl (fun h61 => ?_) (fun h61 => ?_)
                    · have h61 := z_lt h61
                      refine lv_iconst (v := nI 0) hx hb dMD_cell_55 (by decide) ?_
                      exact J56 _ (z_y0 (show ¬ (_ ∧ _) by omega))
                    · have h61 := z_nlt h61
                      refine lv_iconst (v := nI 1) hx hb dMD_cell_51 (by decide) ?_
                      refine lv_goto (tgt := 56) hx hb dMD_cell_52 rfl ?_
                      exact J56 _ (z_y1 (show _ ∧ _ by omega))

set_option maxHeartbeats 4000000 in
set_option maxRecDepth 100000 in
theorem g_SC_cell (l : Launch) (dC : Nat → ClassId) (dI : Nat → Nat → Nat) (h0 : Nat) (wd : Nat) (hh : Nat) (sp : Nat) (gp : Nat) (fx : Nat) (g : Nat) (gr : Nat) (gs : Nat) (bg : Nat) (re : Nat) (ce : Nat) (al : Nat) (ed : Nat) (cE : ClassId) (cap : Nat) (aa : Nat → Option Nat) (mo : Int32) (n : Nat) (ad : Nat → Nat) (d : Nat → Nat → Nat) (a : Int32) (b : Int32) (c1 : Int32) (d1 : Int32) (e1 : Int32) (mi : Nat) (hn : n ≤ cap) (hc : cap < 2147483648) (ha : ∀ k, k < n → aa k = some (ad k)) (hd : ∀ j k, k < n → d j k ≤ 1000) (hg : gr ≤ 1000 ∧ gs ≤ 1000 ∧ bg ≤ 1000 ∧ re ≤ 1000 ∧ ce ≤ 1000) (ht : ∀ k, k < n → d 1 k ≤ re) (hc2 : 2 ≤ cap ∧ cap ≤ 58) (hgb : gs + bg ≤ 12) : zw_Mi (S := (Nat) × (Nat) × (Nat) × (Nat) × (ClassId) × (Nat) × (Nat → Option Nat) × (Int32) × (Nat → Nat) × (Nat → Nat → Nat)) l ySC_cell wSC_cell ({ frames := 8, cells := 2, slots := 68, locals := 176 }) [.ref h0, .int a, .int b, .int c1, .int d1, .int e1] (dC, dI) vwCl ([zob h0 0 [.ref g, .ref wd, .ref hh, .int (nI sp), .int (nI gp), .int (nI fx)], zob g 1 [.ref al, .int (nI gr), .int (nI gs), .int (nI bg), .int (nI re), .int (nI ce)], zob al 2 [.ref ed, .int (nI n), .int mo], zrf ed cE cap aa] ++ zcs n ad (zcf d)) [(cE, .object "java/lang/Object")] (fun _ => zG0 mi) (fun r u => match u with | (n2, re2, ce2, ed2, cE2, cap2, a2, mo2, ad2, d2) => zCf n gs bg re ce ad d a b c1 d1 e1 r n2 re2 ce2 ad2 d2 ∧ n2 ≤ cap2 ∧ 2 ≤ cap2 ∧ cap2 ≤ 58 ∧ ∀ k, k < n2 → a2 k = some (ad2 k)) (fun u => match u with | (n2, re2, ce2, ed2, cE2, cap2, a2, mo2, ad2, d2) => ([zob h0 0 [.ref g, .ref wd, .ref hh, .int (nI sp), .int (nI gp), .int (nI fx)], zob g 1 [.ref al, .int (nI gr), .int (nI gs), .int (nI bg), .int (nI re2), .int (nI ce2)], zob al 2 [.ref ed2, .int (nI n2), .int mo2], zrf ed2 cE2 cap2 a2] ++ zcs n2 ad2 (zcf d2))) (fun u => match u with | (n2, re2, ce2, ed2, cE2, cap2, a2, mo2, ad2, d2) => [(cE2, .object "java/lang/Object")]) 2 68 := by
  refine zw_headi (cc := cSC_cell) (maxL := 9) (ret := (some .int)) (by decide +kernel) rfl (Nat.le_of_ble_eq_true rfl) ?_
  intro p e s m below meth c ls A F hA hP hK hD hS hX hl
  obtain ⟨hx, hb, hml, hr, hlocks, hown, hts⟩ := F
  have hown : s.vm.findClass "SpannedCells" = some m.cls := hown
  have hz : ∀ w9 ∈ zT, w9.before [.ref h0, .int a, .int b, .int c1, .int d1, .int e1].toArray s = true := fun w9 h => hts w9 (List.mem_cons_of_mem _ h)
  have hl : lv_has ls 9 [(0, .ref h0), (1, .int a), (2, .int b), (3, .int c1), (4, .int d1), (5, .int e1)] := hl
  have hN := hX.1
  refine z_q (fun Q hQ => ?_)
  have t_0 := nI_toInt (n := 0) (by omega)
  have t_1 := nI_toInt (n := 1) (by omega)
  have t_6 := nI_toInt (n := 6) (by omega)
  have t_k := nI_toInt (n := 1000) (by omega)
  refine z_join (fun v1 : Int32 => z_yn v1 ((1 ≤ a.toInt ∧ a.toInt ≤ 6) ∧ (0 ≤ b.toInt ∧ b.toInt ≤ 6))) (fun v1 => W p l e ({ frames := 8, cells := 2, slots := 68, locals := 176 }) s m [.ref h0, .int a, .int b, .int c1, .int d1, .int e1].toArray below meth c s.heap [] 0 0 Q (F0 m 25 ls (.int v1 :: []))) (fun v1 hv1 => ?_) (fun J25 => ?_)
  · refine lv_istore hx hb dSC_cell_25 hl (Nat.le_of_ble_eq_true rfl) rfl (fun ls hl => ?_)
    have hl : lv_has ls 9 [(6, .int v1), (0, .ref h0), (1, .int a), (2, .int b), (3, .int c1), (4, .int d1), (5, .int e1)] := hl
    refine z_join (fun v2 : Int32 => z_yn v2 ((0 ≤ c1.toInt ∧ c1.toInt ≤ d1.toInt) ∧ d1.toInt ≤ 1000)) (fun v2 => W p l e ({ frames := 8, cells := 2, slots := 68, locals := 176 }) s m [.ref h0, .int a, .int b, .int c1, .int d1, .int e1].toArray below meth c s.heap [] 0 0 Q (F0 m 54 ls (.int v2 :: []))) (fun v2 hv2 => ?_) (fun J54 => ?_)
    · refine lv_istore hx hb dSC_cell_54 hl (Nat.le_of_ble_eq_true rfl) rfl (fun ls hl => ?_)
      have hl : lv_has ls 9 [(7, .int v2), (6, .int v1), (0, .ref h0), (1, .int a), (2, .int b), (3, .int c1), (4, .int d1), (5, .int e1)] := hl
      refine lv_iload hx hb dSC_cell_56 (lv_at hl 7 rfl) ?_
      refine lv_iconst (v := nI 0) hx hb dSC_cell_58 (by decide) ?_
      refine lv_sipush (v := nI 1000) hx hb dSC_cell_59 (by decide) ?_
      refine vp_callSi (W.runS (As := [.int e1, .int (nI 0), .int (nI 1000)]) (rest := []) ⟨hx, hb, hml, hown, hz⟩ (f_SC_within l dC dI e1 (nI 0) (nI 1000) ) (va_cwS 3 hz (z_gS wd_219 wd_220 wd_29 wd_221) rfl rfl rfl (by decide +kernel) ⟨Nat.le_of_ble_eq_true rfl, Nat.le_of_ble_eq_true rfl⟩) (zr_preS hK (hP.sub [] rfl) [] rfl z_true (fun _ _ _ => trivial)) rfl rfl hl.1 rfl (lv_room (Nat.le_of_ble_eq_true rfl)) dSC_cell_62 ⟨Nat.le_of_ble_eq_true rfl, Nat.le_of_ble_eq_true rfl⟩) (fun re9 h_re9 => ?_)
      have h_re9 : z_yn re9 ((nI 0).toInt ≤ e1.toInt ∧ e1.toInt ≤ (nI 1000).toInt) := h_re9
      refine lv_istore hx hb dSC_cell_65 hl (Nat.le_of_ble_eq_true rfl) rfl (fun ls hl => ?_)
      have hl : lv_has ls 9 [(8, .int re9), (7, .int v2), (6, .int v1), (0, .ref h0), (1, .int a), (2, .int b), (3, .int c1), (4, .int d1), (5, .int e1)] := hl
      refine lv_iload hx hb dSC_cell_67 (lv_at hl 2 rfl) ?_
      refine lv_if_eq (tgt := 82) hx hb dSC_cell_69 rfl (fun h_v => ?_) (fun h_v => ?_)
      · have h_v := z_yF hv1 h_v
        refine lv_iconst (v := (-1)) hx hb dSC_cell_82 (by decide) ?_
        refine W.widen (k := 2) (n := 68) (Nat.le_of_ble_eq_true rfl) (Nat.le_of_ble_eq_true rfl) ?_
        subst hQ
        exact zw_iret (D := (dC, dI)) (cl := vwCl) (A := A) (n, re, ce, ed, cE, cap, aa, mo, ad, d) hx hb hr hlocks (⟨Or.inl ⟨fun h9 => h_v h9.1, rfl, rfl, rfl, rfl, rfl, rfl⟩, by omega, by omega, by omega, ha⟩) (zt_sub hP [0, 1, 2, 3] rfl) (hK.sub [0] rfl) (zt_subD hD [0, 1, 2, 3] (by decide) rfl) hS dSC_cell_83
      · have h_v := z_yT hv1 h_v
        refine lv_iload hx hb dSC_cell_72 (lv_at hl 1 rfl) ?_
        refine lv_if_eq (tgt := 82) hx hb dSC_cell_74 rfl (fun h_w => ?_) (fun h_w => ?_)
        · have h_w := z_yF hv2 h_w
          refine lv_iconst (v := (-1)) hx hb dSC_cell_82 (by decide) ?_
          refine W.widen (k := 2) (n := 68) (Nat.le_of_ble_eq_true rfl) (Nat.le_of_ble_eq_true rfl) ?_
          subst hQ
          exact zw_iret (D := (dC, dI)) (cl := vwCl) (A := A) (n, re, ce, ed, cE, cap, aa, mo, ad, d) hx hb hr hlocks (⟨Or.inl ⟨fun h9 => h_w h9.2.1, rfl, rfl, rfl, rfl, rfl, rfl⟩, by omega, by omega, by omega, ha⟩) (zt_sub hP [0, 1, 2, 3] rfl) (hK.sub [0] rfl) (zt_subD hD [0, 1, 2, 3] (by decide) rfl) hS dSC_cell_83
        · have h_w := z_yT hv2 h_w
          refine lv_iload hx hb dSC_cell_77 (lv_at hl 0 rfl) ?_
          refine lv_if_ne (tgt := 84) hx hb dSC_cell_79 rfl (fun h_x => ?_) (fun h_x => ?_)
          · have h_x := z_yT h_re9 h_x
            have h_g : zGood a b c1 d1 e1 := ⟨h_v, h_w, by omega⟩
            have h_g2 := h_g
            have h_g3 : ((1 ≤ a.toInt ∧ a.toInt ≤ 6) ∧ (0 ≤ b.toInt ∧ b.toInt ≤ 6)) ∧ ((0 ≤ c1.toInt ∧ c1.toInt ≤ d1.toInt) ∧ d1.toInt ≤ 1000) ∧ (0 ≤ e1.toInt ∧ e1.toInt ≤ 1000) := h_g
            obtain ⟨a_v, hz_a, rfl⟩ := z_ofIn (c := a) (n := 1001) (by omega) (by omega) (by omega)
            obtain ⟨b_v, hz_b, rfl⟩ := z_ofIn (c := b) (n := 1001) (by omega) (by omega) (by omega)
            obtain ⟨c1_v, hz_c1, rfl⟩ := z_ofIn (c := c1) (n := 1001) (by omega) (by omega) (by omega)
            obtain ⟨d1_v, hz_d1, rfl⟩ := z_ofIn (c := d1) (n := 1001) (by omega) (by omega) (by omega)
            obtain ⟨e1_v, hz_e1, rfl⟩ := z_ofIn (c := e1) (n := 1001) (by omega) (by omega) (by omega)
            have tz_a := nI_toInt (n := a_v) (by omega)
            have tz_b := nI_toInt (n := b_v) (by omega)
            have tz_c1 := nI_toInt (n := c1_v) (by omega)
            have tz_d1 := nI_toInt (n := d1_v) (by omega)
            have tz_e1 := nI_toInt (n := e1_v) (by omega)
            refine lv_aload_n hx hb dSC_cell_84 rfl (lv_at hl 3 rfl) ?_
            refine va_get (D := (dC, dI)) (ci := 0) (v := .ref g) (C := RSC) (T := TSC) (N := 6) hx hb hz in_SC hown hK hP 0 rfl rfl 0 (by decide) (hz _ wd_150) (fun _ h9 => h9) rfl dSC_cell_85 ?_
            refine lv_iload_n hx hb dSC_cell_88 rfl (lv_at hl 4 rfl) ?_
            refine lv_iload_n hx hb dSC_cell_89 rfl (lv_at hl 5 rfl) ?_
            refine lv_iload_n hx hb dSC_cell_90 rfl (lv_at hl 6 rfl) ?_
            refine lv_iload hx hb dSC_cell_91 (lv_at hl 7 rfl) ?_
            refine lv_iload hx hb dSC_cell_93 (lv_at hl 8 rfl) ?_
            refine zw_callTi (wr := [zob h0 0 [.ref g, .ref wd, .ref hh, .int (nI sp), .int (nI gp), .int (nI fx)]]) hK hP hD hS hA [1, 2, 3] [0] rfl rfl (by decide) (by decide) (va_runV (As := [.int (nI a_v), .int (nI b_v), .int (nI c1_v), .int (nI d1_v), .int (nI e1_v)]) (rest := []) ⟨hx, hb, hml, hown, hz⟩ ((f_GR_putCell l dC dI g gr gs bg re ce al ed cE cap aa mo n ad d a_v b_v c1_v d1_v e1_v mi (by omega) (by omega) (ha) (hd) (hg) (ht) (hc2) (by omega) (hgb)) s.heap.size) (cwV 5 hz (z_gV wd_222 wd_223 wd_224 wd_30 wd_225) rfl rfl rfl (by decide +kernel) ⟨Nat.le_of_ble_eq_true rfl, Nat.le_of_ble_eq_true rfl⟩) (zw_preVT hK hP hD (va_recv (q0 := 1) hK hP (q := (RGR, TGR, 6)) rfl rfl) [1, 2, 3] (by decide) rfl [0] rfl zG0_blind (zG0_call hX)) rfl rfl hl.1 rfl (lv_room (Nat.le_of_ble_eq_true rfl)) dSC_cell_95 ⟨Nat.le_of_ble_eq_true rfl, Nat.le_of_ble_eq_true rfl⟩) (fun rp u H locs h_rp hP hD hK hS => ?_)
            obtain ⟨x0_, x1_, x2_, x3_, x4_, x5_, x6_, x7_, x8_, x9_⟩ := u
            have hP : va_P (dC, dI) vwCl ([zob h0 0 [.ref g, .ref wd, .ref hh, .int (nI sp), .int (nI gp), .int (nI fx)], zob g 1 [.ref al, .int (nI gr), .int (nI gs), .int (nI bg), .int (nI x1_), .int (nI x2_)], zob al 2 [.ref x3_, .int (nI x0_), .int x7_], zrf x3_ x4_ x5_ x6_] ++ zcs x0_ x8_ (zcf x9_)) H := zt_sub hP [0, 1, 2, 3] rfl
            have hD : va_D A ([zob h0 0 [.ref g, .ref wd, .ref hh, .int (nI sp), .int (nI gp), .int (nI fx)], zob g 1 [.ref al, .int (nI gr), .int (nI gs), .int (nI bg), .int (nI x1_), .int (nI x2_)], zob al 2 [.ref x3_, .int (nI x0_), .int x7_], zrf x3_ x4_ x5_ x6_] ++ zcs x0_ x8_ (zcf x9_)) := zt_subD hD [0, 1, 2, 3] (by decide) rfl
            have hK : va_K (dC, dI) vwCl [(cE, .object "java/lang/Object"), (x4_, .object "java/lang/Object")] s := hK
            refine W.widen (k := 2) (n := 68) (Nat.le_of_ble_eq_true rfl) (Nat.le_of_ble_eq_true rfl) ?_
            have h_rp : zPc n gs bg re ce ad d a_v b_v c1_v d1_v e1_v rp x0_ x1_ x2_ x8_ x9_ ∧ x0_ ≤ x5_ ∧ 2 ≤ x5_ ∧ x5_ ≤ 58 ∧ ∀ k, k < x0_ → x6_ k = some (x8_ k) := h_rp
            subst hQ
            exact zw_iret (D := (dC, dI)) (cl := vwCl) (A := A) (x0_, x1_, x2_, x3_, x4_, x5_, x6_, x7_, x8_, x9_) hx hb hr hlocks (⟨Or.inr ⟨h_g2, a_v, b_v, c1_v, d1_v, e1_v, ⟨by omega, by omega, by omega, by omega, by omega⟩, rfl, rfl, rfl, rfl, rfl, h_rp.1⟩, h_rp.2⟩) (zt_sub hP [0, 1, 2, 3] rfl) (hK.sub [1] rfl) (zt_subD hD [0, 1, 2, 3] (by decide) rfl) hS dSC_cell_98
          · have h_x := z_yF h_re9 h_x
            refine lv_iconst (v := (-1)) hx hb dSC_cell_82 (by decide) ?_
            refine W.widen (k := 2) (n := 68) (Nat.le_of_ble_eq_true rfl) (Nat.le_of_ble_eq_true rfl) ?_
            subst hQ
            exact zw_iret (D := (dC, dI)) (cl := vwCl) (A := A) (n, re, ce, ed, cE, cap, aa, mo, ad, d) hx hb hr hlocks (⟨Or.inl ⟨fun h9 => by have := h9.2.2; omega, rfl, rfl, rfl, rfl, rfl, rfl⟩, by omega, by omega, by omega, ha⟩) (zt_sub hP [0, 1, 2, 3] rfl) (hK.sub [0] rfl) (zt_subD hD [0, 1, 2, 3] (by decide) rfl) hS dSC_cell_83
    · refine lv_iload hx hb dSC_cell_27 (lv_at hl 5 rfl) ?_
      refine lv_iconst (v := nI 0) hx hb dSC_cell_29 (by decide) ?_
      refine lv_sipush (v := nI 1000) hx hb dSC_cell_30 (by decide) ?_
      refine vp_callSi (W.runS (As := [.int d1, .int (nI 0), .int (nI 1000)]) (rest := []) ⟨hx, hb, hml, hown, hz⟩ (f_SC_within l dC dI d1 (nI 0) (nI 1000) ) (va_cwS 3 hz (z_gS wd_219 wd_220 wd_29 wd_221) rfl rfl rfl (by decide +kernel) ⟨Nat.le_of_ble_eq_true rfl, Nat.le_of_ble_eq_true rfl⟩) (zr_preS hK (hP.sub [] rfl) [] rfl z_true (fun _ _ _ => trivial)) rfl rfl hl.1 rfl (lv_room (Nat.le_of_ble_eq_true rfl)) dSC_cell_33 ⟨Nat.le_of_ble_eq_true rfl, Nat.le_of_ble_eq_true rfl⟩) (fun rc h_rc => ?_)
      have h_rc : z_yn rc ((nI 0).toInt ≤ d1.toInt ∧ d1.toInt ≤ (nI 1000).toInt) := h_rc
      refine lv_if_eq (tgt := 53) hx hb dSC_cell_36 rfl (fun h_b => ?_) (fun h_b => ?_)
      · have h_b := z_yF h_rc h_b
        refine lv_iconst (v := nI 0) hx hb dSC_cell_53 (by decide) ?_
        exact J54 _ (z_y0 (by omega))
      · have h_b := z_yT h_rc h_b
        have h_c := h_b
        refine lv_iload_n hx hb dSC_cell_39 rfl (lv_at hl 4 rfl) ?_
        refine lv_iconst (v := nI 0) hx hb dSC_cell_40 (by decide) ?_
        refine lv_iload hx hb dSC_cell_41 (lv_at hl 5 rfl) ?_
        refine vp_callSi (W.runS (As := [.int c1, .int (nI 0), .int d1]) (rest := []) ⟨hx, hb, hml, hown, hz⟩ (f_SC_within l dC dI c1 (nI 0) d1 ) (va_cwS 3 hz (z_gS wd_219 wd_220 wd_29 wd_221) rfl rfl rfl (by decide +kernel) ⟨Nat.le_of_ble_eq_true rfl, Nat.le_of_ble_eq_true rfl⟩) (zr_preS hK (hP.sub [] rfl) [] rfl z_true (fun _ _ _ => trivial)) rfl rfl hl.1 rfl (lv_room (Nat.le_of_ble_eq_true rfl)) dSC_cell_43 ⟨Nat.le_of_ble_eq_true rfl, Nat.le_of_ble_eq_true rfl⟩) (fun rd h_rd => ?_)
        have h_rd : z_yn rd ((nI 0).toInt ≤ c1.toInt ∧ c1.toInt ≤ d1.toInt) := h_rd
        refine lv_if_eq (tgt := 53) hx hb dSC_cell_46 rfl (fun h_b => ?_) (fun h_b => ?_)
        · have h_b := z_yF h_rd h_b
          refine lv_iconst (v := nI 0) hx hb dSC_cell_53 (by decide) ?_
          exact J54 _ (z_y0 (by omega))
        · have h_b := z_yT h_rd h_b
          refine lv_iconst (v := nI 1) hx hb dSC_cell_49 (by decide) ?_
          refine lv_goto (tgt := 54) hx hb dSC_cell_50 rfl ?_
          exact J54 _ (z_y1 (by omega))
  · refine lv_iload_n hx hb dSC_cell_0 rfl (lv_at hl 1 rfl) ?_
    refine lv_iconst (v := nI 1) hx hb dSC_cell_1 (by decide) ?_
    refine lv_bipush (v := nI 6) hx hb dSC_cell_2 (by decide) ?_
    refine vp_callSi (W.runS (As := [.int a, .int (nI 1), .int (nI 6)]) (rest := []) ⟨hx, hb, hml, hown, hz⟩ (f_SC_within l dC dI a (nI 1) (nI 6) ) (va_cwS 3 hz (z_gS wd_219 wd_220 wd_29 wd_221) rfl rfl rfl (by decide +kernel) ⟨Nat.le_of_ble_eq_true rfl, Nat.le_of_ble_eq_true rfl⟩) (zr_preS hK (hP.sub [] rfl) [] rfl z_true (fun _ _ _ => trivial)) rfl rfl hl.1 rfl (lv_room (Nat.le_of_ble_eq_true rfl)) dSC_cell_4 ⟨Nat.le_of_ble_eq_true rfl, Nat.le_of_ble_eq_true rfl⟩) (fun ra h_ra => ?_)
    have h_ra : z_yn ra ((nI 1).toInt ≤ a.toInt ∧ a.toInt ≤ (nI 6).toInt) := h_ra
    refine lv_if_eq (tgt := 24) hx hb dSC_cell_7 rfl (fun h_b => ?_) (fun h_b => ?_)
    · have h_b := z_yF h_ra h_b
      refine lv_iconst (v := nI 0) hx hb dSC_cell_24 (by decide) ?_
      exact J25 _ (z_y0 (by omega))
    · have h_b := z_yT h_ra h_b
      have h_a := h_b
      refine lv_iload_n hx hb dSC_cell_10 rfl (lv_at hl 2 rfl) ?_
      refine lv_iconst (v := nI 0) hx hb dSC_cell_11 (by decide) ?_
      refine lv_bipush (v := nI 6) hx hb dSC_cell_12 (by decide) ?_
      refine vp_callSi (W.runS (As := [.int b, .int (nI 0), .int (nI 6)]) (rest := []) ⟨hx, hb, hml, hown, hz⟩ (f_SC_within l dC dI b (nI 0) (nI 6) ) (va_cwS 3 hz (z_gS wd_219 wd_220 wd_29 wd_221) rfl rfl rfl (by decide +kernel) ⟨Nat.le_of_ble_eq_true rfl, Nat.le_of_ble_eq_true rfl⟩) (zr_preS hK (hP.sub [] rfl) [] rfl z_true (fun _ _ _ => trivial)) rfl rfl hl.1 rfl (lv_room (Nat.le_of_ble_eq_true rfl)) dSC_cell_14 ⟨Nat.le_of_ble_eq_true rfl, Nat.le_of_ble_eq_true rfl⟩) (fun rb h_rb => ?_)
      have h_rb : z_yn rb ((nI 0).toInt ≤ b.toInt ∧ b.toInt ≤ (nI 6).toInt) := h_rb
      refine lv_if_eq (tgt := 24) hx hb dSC_cell_17 rfl (fun h_b => ?_) (fun h_b => ?_)
      · have h_b := z_yF h_rb h_b
        refine lv_iconst (v := nI 0) hx hb dSC_cell_24 (by decide) ?_
        exact J25 _ (z_y0 (by omega))
      · have h_b := z_yT h_rb h_b
        refine lv_iconst (v := nI 1) hx hb dSC_cell_20 (by decide) ?_
        refine lv_goto (tgt := 25) hx hb dSC_cell_21 rfl ?_
        exact J25 _ (z_y1 (by omega))
