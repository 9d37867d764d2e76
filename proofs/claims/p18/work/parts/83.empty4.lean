set_option maxHeartbeats 4000000 in
set_option maxRecDepth 100000 in
theorem e_AL_grow_22 (l : Launch) (dC : Nat → ClassId) (dI : Nat → Nat → Nat) (T : va_W) (al : Nat) (t : Nat) (mo : Int32) (ty : FieldType) (mi : Nat) : zw_Mr (S := (Nat) × (ClassId)) l yAL_grow_22 wAL_grow_22 ({ frames := 1, cells := 1, slots := 10, locals := 14 }) [.ref al, .int (nI 1)] (dC, dI) vwCl ([zob al 2 [.ref t, .int (nI 0), .int mo]] ++ T) [] (zY t ty mi) (fun u => match u with | (q2, c2) => True) (fun u => match u with | (q2, c2) => ([zob al 2 [.ref q2, .int (nI 0), .int mo], zrf q2 c2 10 (fun _ => none)] ++ T)) (fun u => match u with | (q2, c2) => [(c2, .object "java/lang/Object")]) (fun u => match u with | (q2, c2) => q2) 1 10 := by
  refine zw_headr (cc := cAL_grow_22) (maxL := 4) (ret := (some (.array (.object "java/lang/Object")))) (by decide +kernel) rfl (Nat.le_of_ble_eq_true rfl) ?_
  intro p e s m below meth c ls A F hA hP hK hD hS hX hl
  obtain ⟨hx, hb, hml, hr, hlocks, hown, hts⟩ := F
  have hown : s.vm.findClass "java/util/ArrayList" = some m.cls := hown
  have hz : ∀ w9 ∈ zT, w9.before [.ref al, .int (nI 1)].toArray s = true := fun w9 h => hts w9 (List.mem_cons_of_mem _ h)
  have hl : lv_has ls 4 [(0, .ref al), (1, .int (nI 1))] := hl
  have hN := hX.1.1
  refine z_q (fun Q hQ => ?_)
  refine lv_aload_n hx hb dAL_grow_22_0 rfl (lv_at hl 0 rfl) ?_
  refine va_get (D := (dC, dI)) (ci := 2) (v := .ref t) (C := RAL) (T := TAL) (N := 3) hx hb hz in_AL hown hK hP 0 rfl rfl 0 (by decide) (hz _ wd_73) (fun _ h9 => h9) rfl dAL_grow_22_1 ?_
  refine va_tlen (v := nI 0) hx hb hX.2.2 hS rfl dAL_grow_22_4 ?_
  refine lv_istore_n hx hb dAL_grow_22_5 rfl hl (Nat.le_of_ble_eq_true rfl) rfl (fun ls hl => ?_)
  have hl : lv_has ls 4 [(2, .int (nI 0)), (0, .ref al), (1, .int (nI 1))] := hl
  refine lv_iload_n hx hb dAL_grow_22_6 rfl (lv_at hl 0 rfl) ?_
  refine lv_if_gt (tgt := 20) hx hb dAL_grow_22_7 rfl (fun h => absurd h (by decide)) (fun _ => ?_)
  refine lv_aload_n hx hb dAL_grow_22_10 rfl (lv_at hl 1 rfl) ?_
  refine va_get (D := (dC, dI)) (ci := 2) (v := .ref t) (C := RAL) (T := TAL) (N := 3) hx hb hz in_AL hown hK hP 0 rfl rfl 0 (by decide) (hz _ wd_73) (fun _ h9 => h9) rfl dAL_grow_22_11 ?_
  refine va_gets (v := .ref t) hx hb hX.2.1 hS hown (hz _ wd_71) (fun _ h9 => h9) dAL_grow_22_14 ?_
  refine lv_acmp_eq (rx := some t) (ry := some t) (tgt := 45) hx hb dAL_grow_22_17 rfl (fun _ => ?_) (fun h => absurd rfl h)
  refine lv_aload_n hx hb dAL_grow_22_45 rfl (lv_at hl 1 rfl) ?_
  refine lv_bipush (v := nI 10) hx hb dAL_grow_22_46 (by decide) ?_
  refine lv_iload_n hx hb dAL_grow_22_48 rfl (lv_at hl 2 rfl) ?_
  refine va_mmax hx hb (hml.trans hl.1.symm) hown (hz _ wd_349) (hz _ wd_190) (hz _ wd_38) (hz _ wd_191) (Nat.le_of_ble_eq_true rfl) (Nat.le_of_ble_eq_true rfl) (Nat.le_of_ble_eq_true rfl) (Nat.le_of_ble_eq_true rfl) dAL_grow_22_49 ?_
  refine lv_topi (fun x1 e2 => ?_)
  have e2 : x1 = nI 10 := e2.trans (by decide)
  subst e2
  refine va_newq (N' := 10) hx hb hown (hz _ wd_350) hX.1.2.2.1 hK hP hD hS hA (nI_pos (by omega)) (nI_clamp (by omega)) (by omega) (Nat.le_of_ble_eq_true rfl) (show 0 + 10 ≤ 10 by omega) dAL_grow_22_52 (fun q3 cA4 H hK hP hD hS => ?_)
  refine W.widen (k := 1) (n := 10) (Nat.le_of_ble_eq_true rfl) (by omega) ?_
  have hP := zP_perm z_pm hP
  have hD := zD_perm z_pm hD
  have hP : va_P (dC, dI) vwCl ([zob al 2 [.ref t, .int (nI 0), .int mo], zrf q3 cA4 10 (fun _ => none)] ++ T) H := hP
  have hD : va_D A ([zob al 2 [.ref t, .int (nI 0), .int mo], zrf q3 cA4 10 (fun _ => none)] ++ T) := hD
  have hK : va_K (dC, dI) vwCl [(cA4, .object "java/lang/Object")] s := hK
  refine lv_dup_x1 hx hb dAL_grow_22_55 rfl rfl ?_
  refine va_put (D := (dC, dI)) (ci := 2) (v := .ref q3) (ty := .array (.object "java/lang/Object")) (C := RAL) (T := TAL) (N := 3) hx hb hz in_AL tyAL tokAL nokAL hown hK hP hD hS 0 rfl rfl 0 (by decide) (hz _ wd_73) (fun _ h9 => h9) rfl (by decide +kernel) rfl rfl (Nat.le_of_ble_eq_true rfl) dAL_grow_22_56 (fun H locs hP hD hS => ?_)
  have hP : va_P (dC, dI) vwCl ([zob al 2 [.ref q3, .int (nI 0), .int mo], zrf q3 cA4 10 (fun _ => none)] ++ T) H := hP
  have hD : va_D A ([zob al 2 [.ref q3, .int (nI 0), .int mo], zrf q3 cA4 10 (fun _ => none)] ++ T) := hD
  subst hQ
  exact zw_aret (D := (dC, dI)) (cl := vwCl) (A := A) (q3, cA4) hx hb hr (Or.inr ⟨_, rfl⟩) hlocks (rfl) (trivial) (zt_sub hP [0, 1] rfl) (hK.sub [0] rfl) (zt_subD hD [0, 1] (by decide) rfl) hS dAL_grow_22_59

set_option maxHeartbeats 4000000 in
set_option maxRecDepth 100000 in
theorem e_AL_grow (l : Launch) (dC : Nat → ClassId) (dI : Nat → Nat → Nat) (T : va_W) (al : Nat) (t : Nat) (mo : Int32) (ty : FieldType) (mi : Nat) : zw_Mr (S := (Nat) × (ClassId)) l yAL_grow wAL_grow ({ frames := 2, cells := 1, slots := 10, locals := 37 }) [.ref al] (dC, dI) vwCl ([zob al 2 [.ref t, .int (nI 0), .int mo]] ++ T) [] (zY t ty mi) (fun u => match u with | (q2, c2) => True) (fun u => match u with | (q2, c2) => ([zob al 2 [.ref q2, .int (nI 0), .int mo], zrf q2 c2 10 (fun _ => none)] ++ T)) (fun u => match u with | (q2, c2) => [(c2, .object "java/lang/Object")]) (fun u => match u with | (q2, c2) => q2) 1 10 := by
  refine zw_headr (cc := cAL_grow) (maxL := 1) (ret := (some (.array (.object "java/lang/Object")))) (by decide +kernel) rfl (Nat.le_of_ble_eq_true rfl) ?_
  intro p e s m below meth c ls A F hA hP hK hD hS hX hl
  obtain ⟨hx, hb, hml, hr, hlocks, hown, hts⟩ := F
  have hown : s.vm.findClass "java/util/ArrayList" = some m.cls := hown
  have hz : ∀ w9 ∈ zT, w9.before [.ref al].toArray s = true := fun w9 h => hts w9 (List.mem_cons_of_mem _ h)
  have hl : lv_has ls 1 [(0, .ref al)] := hl
  have hN := hX.1.1
  refine z_q (fun Q hQ => ?_)
  refine lv_aload_n hx hb dAL_grow_0 rfl (lv_at hl 0 rfl) ?_
  refine lv_aload_n hx hb dAL_grow_1 rfl (lv_at hl 0 rfl) ?_
  refine va_get (D := (dC, dI)) (ci := 2) (v := .int (nI 0)) (C := RAL) (T := TAL) (N := 3) hx hb hz in_AL hown hK hP 0 rfl rfl 1 (by decide) (hz _ wd_74) (fun _ h9 => h9) rfl dAL_grow_2 ?_
  refine lv_iconst (v := nI 1) hx hb dAL_grow_5 (by decide) ?_
  refine lv_iadd hx hb dAL_grow_6 ?_
  refine lv_topi (fun x1 e2 => ?_)
  have e2 : x1 = nI 1 := e2.trans (by decide)
  subst e2
  refine zw_callTr (wr := []) hK hP hD hS hA [0] [] rfl rfl (by decide) (by decide) (va_runV (As := [.int (nI 1)]) (rest := []) ⟨hx, hb, hml, hown, hz⟩ ((e_AL_grow_22 l dC dI T al t mo ty mi ) s.heap.size) (cwV 1 hz (z_gV wd_310 wd_312 wd_4 wd_33 wd_313) rfl rfl rfl (by decide +kernel) ⟨Nat.le_of_ble_eq_true rfl, Nat.le_of_ble_eq_true rfl⟩) (zw_preVT hK hP hD (va_recv (q0 := 0) hK hP (q := (RAL, TAL, 3)) rfl rfl) [0] (by decide) rfl [] rfl zY_blind (zY_call hX hS (z_freeT hD hS hA [0] rfl))) rfl rfl hl.1 rfl (lv_room (Nat.le_of_ble_eq_true rfl)) dAL_grow_7 ⟨Nat.le_of_ble_eq_true rfl, Nat.le_of_ble_eq_true rfl⟩) (fun u H locs h_r3 hP hD hK hS => ?_)
  obtain ⟨q_2, c_2⟩ := u
  have hP : va_P (dC, dI) vwCl ([zob al 2 [.ref q_2, .int (nI 0), .int mo], zrf q_2 c_2 10 (fun _ => none)] ++ T) H := zt_sub hP [0, 1] rfl
  have hD : va_D A ([zob al 2 [.ref q_2, .int (nI 0), .int mo], zrf q_2 c_2 10 (fun _ => none)] ++ T) := zt_subD hD [0, 1] (by decide) rfl
  have hK : va_K (dC, dI) vwCl [(c_2, .object "java/lang/Object")] s := hK
  refine W.widen (k := 1) (n := 10) (Nat.le_of_ble_eq_true rfl) (Nat.le_of_ble_eq_true rfl) ?_
  refine W.eq (g2 := F0 m 10 ls [.ref q_2]) rfl ?_
  subst hQ
  exact zw_aret (D := (dC, dI)) (cl := vwCl) (A := A) (q_2, c_2) hx hb hr (Or.inr ⟨_, rfl⟩) hlocks (rfl) (trivial) (zt_sub hP [0, 1] rfl) (hK.sub [0] rfl) (zt_subD hD [0, 1] (by decide) rfl) hS dAL_grow_10

set_option maxHeartbeats 4000000 in
set_option maxRecDepth 100000 in
theorem e_AL_add_41 (l : Launch) (dC : Nat → ClassId) (dI : Nat → Nat → Nat) (T : va_W) (al : Nat) (t : Nat) (mo : Int32) (x : Nat) (f0 : Nat) (f1 : Nat) (f2 : Nat) (f3 : Nat) (f4 : Nat) (f5 : Nat) (f6 : Nat) (f7 : Nat) (f8 : Nat) (f9 : Nat) (ty : FieldType) (mi : Nat) : zw_Mv (S := (Nat) × (ClassId)) l yAL_add_41 wAL_add_41 ({ frames := 3, cells := 1, slots := 10, locals := 57 }) [.ref al, .ref x, .ref t, .int (nI 0)] (dC, dI) vwCl ([zob al 2 [.ref t, .int (nI 0), .int mo], zob x 7 [.int (nI f0), .int (nI f1), .int (nI f2), .int (nI f3), .int (nI f4), .int (nI f5), .int (nI f6), .int (nI f7), .int (nI f8), .int (nI f9)]] ++ T) [] (zY t ty mi) (fun u => match u with | (q2, c2) => True) (fun u => match u with | (q2, c2) => ([zob al 2 [.ref q2, .int (nI 1), .int mo], zrf q2 c2 10 (va_up (fun _ => none) 0 (some x)), zob x 7 [.int (nI f0), .int (nI f1), .int (nI f2), .int (nI f3), .int (nI f4), .int (nI f5), .int (nI f6), .int (nI f7), .int (nI f8), .int (nI f9)]] ++ T)) (fun u => match u with | (q2, c2) => [(c2, .object "java/lang/Object")]) 1 10 := by
  refine zw_headv (cc := cAL_add_41) (maxL := 4) (ret := none) (by decide +kernel) rfl (Nat.le_of_ble_eq_true rfl) ?_
  intro p e s m below meth c ls A F hnm hA hP hK hD hS hX hl
  obtain ⟨hx, hb, hml, hr, hlocks, hown, hts⟩ := F
  have hown : s.vm.findClass "java/util/ArrayList" = some m.cls := hown
  have hz : ∀ w9 ∈ zT, w9.before [.ref al, .ref x, .ref t, .int (nI 0)].toArray s = true := fun w9 h => hts w9 (List.mem_cons_of_mem _ h)
  have hl : lv_has ls 4 [(0, .ref al), (1, .ref x), (2, .ref t), (3, .int (nI 0))] := hl
  have hN := hX.1.1
  refine z_q (fun Q hQ => ?_)
  refine lv_iload_n hx hb dAL_add_41_0 rfl (lv_at hl 3 rfl) ?_
  refine lv_aload_n hx hb dAL_add_41_1 rfl (lv_at hl 2 rfl) ?_
  refine va_tlen (v := nI 0) hx hb hX.2.2 hS rfl dAL_add_41_2 ?_
  refine lv_icmp_ne (tgt := 11) hx hb dAL_add_41_3 rfl (fun h => absurd (by decide) h) (fun _ => ?_)
  refine lv_aload_n hx hb dAL_add_41_6 rfl (lv_at hl 0 rfl) ?_
  refine zw_callTr (wr := [zob x 7 [.int (nI f0), .int (nI f1), .int (nI f2), .int (nI f3), .int (nI f4), .int (nI f5), .int (nI f6), .int (nI f7), .int (nI f8), .int (nI f9)]]) hK hP hD hS hA [0] [1] rfl rfl (by decide) (by decide) (va_runV (As := []) (rest := []) ⟨hx, hb, hml, hown, hz⟩ ((e_AL_grow l dC dI T al t mo ty mi ) s.heap.size) (cwV 0 hz (z_gV wd_306 wd_308 wd_3 wd_33 wd_309) rfl rfl rfl (by decide +kernel) ⟨Nat.le_of_ble_eq_true rfl, Nat.le_of_ble_eq_true rfl⟩) (zw_preVT hK hP hD (va_recv (q0 := 0) hK hP (q := (RAL, TAL, 3)) rfl rfl) [0] (by decide) rfl [] rfl zY_blind (zY_call hX hS (z_freeT hD hS hA [0] rfl))) rfl rfl hl.1 rfl (lv_room (Nat.le_of_ble_eq_true rfl)) dAL_add_41_7 ⟨Nat.le_of_ble_eq_true rfl, Nat.le_of_ble_eq_true rfl⟩) (fun u H locs h_r1 hP hD hK hS => ?_)
  obtain ⟨q_2, c_2⟩ := u
  have hP : va_P (dC, dI) vwCl ([zob al 2 [.ref q_2, .int (nI 0), .int mo], zob x 7 [.int (nI f0), .int (nI f1), .int (nI f2), .int (nI f3), .int (nI f4), .int (nI f5), .int (nI f6), .int (nI f7), .int (nI f8), .int (nI f9)], zrf q_2 c_2 10 (fun _ => none)] ++ T) H := zt_sub hP [1, 0, 2] rfl
  have hD : va_D A ([zob al 2 [.ref q_2, .int (nI 0), .int mo], zob x 7 [.int (nI f0), .int (nI f1), .int (nI f2), .int (nI f3), .int (nI f4), .int (nI f5), .int (nI f6), .int (nI f7), .int (nI f8), .int (nI f9)], zrf q_2 c_2 10 (fun _ => none)] ++ T) := zt_subD hD [1, 0, 2] (by decide) rfl
  have hK : va_K (dC, dI) vwCl [(c_2, .object "java/lang/Object")] s := hK
  refine W.widen (k := 1) (n := 10) (Nat.le_of_ble_eq_true rfl) (Nat.le_of_ble_eq_true rfl) ?_
  refine W.eq (g2 := F0 m 10 ls [.ref q_2]) rfl ?_
  refine lv_astore_n hx hb dAL_add_41_10 rfl hl (Nat.le_of_ble_eq_true rfl) rfl (fun ls hl => ?_)
  have hl : lv_has ls 4 [(2, .ref q_2), (0, .ref al), (1, .ref x), (3, .int (nI 0))] := hl
  refine lv_aload_n hx hb dAL_add_41_11 rfl (lv_at hl 0 rfl) ?_
  refine lv_iload_n hx hb dAL_add_41_12 rfl (lv_at hl 3 rfl) ?_
  refine lv_aload_n hx hb dAL_add_41_13 rfl (lv_at hl 2 rfl) ?_
  refine va_astqO (r := (RCE, TCE, 10)) hx hb hK hP hD hS 2 0 1 7 rfl rfl hX.1.2.1 rfl rfl (vp_in_nI (by omega) (by omega)) dAL_add_41_14 (fun H locs hP hD hS => ?_)
  rw [nI_clamp (by omega)] at hP hD
  have hP : va_P (dC, dI) vwCl ([zob al 2 [.ref q_2, .int (nI 0), .int mo], zob x 7 [.int (nI f0), .int (nI f1), .int (nI f2), .int (nI f3), .int (nI f4), .int (nI f5), .int (nI f6), .int (nI f7), .int (nI f8), .int (nI f9)], zrf q_2 c_2 10 (va_up (fun _ => none) 0 (some x))] ++ T) H := hP
  have hD : va_D A ([zob al 2 [.ref q_2, .int (nI 0), .int mo], zob x 7 [.int (nI f0), .int (nI f1), .int (nI f2), .int (nI f3), .int (nI f4), .int (nI f5), .int (nI f6), .int (nI f7), .int (nI f8), .int (nI f9)], zrf q_2 c_2 10 (va_up (fun _ => none) 0 (some x))] ++ T) := hD
  refine lv_aload_n hx hb dAL_add_41_15 rfl (lv_at hl 1 rfl) ?_
  refine lv_iload_n hx hb dAL_add_41_16 rfl (lv_at hl 3 rfl) ?_
  refine lv_iconst (v := nI 1) hx hb dAL_add_41_17 (by decide) ?_
  refine lv_iadd hx hb dAL_add_41_18 ?_
  refine lv_topi (fun x2 e3 => ?_)
  have e3 : x2 = nI 1 := e3.trans (by decide)
  subst e3
  refine va_put (D := (dC, dI)) (ci := 2) (v := .int (nI 1)) (ty := .int) (C := RAL) (T := TAL) (N := 3) hx hb hz in_AL tyAL tokAL nokAL hown hK hP hD hS 0 rfl rfl 1 (by decide) (hz _ wd_74) (fun _ h9 => h9) rfl (by decide +kernel) rfl rfl (Nat.le_of_ble_eq_true rfl) dAL_add_41_19 (fun H locs hP hD hS => ?_)
  have hP : va_P (dC, dI) vwCl ([zob al 2 [.ref q_2, .int (nI 1), .int mo], zob x 7 [.int (nI f0), .int (nI f1), .int (nI f2), .int (nI f3), .int (nI f4), .int (nI f5), .int (nI f6), .int (nI f7), .int (nI f8), .int (nI f9)], zrf q_2 c_2 10 (va_up (fun _ => none) 0 (some x))] ++ T) H := hP
  have hD : va_D A ([zob al 2 [.ref q_2, .int (nI 1), .int mo], zob x 7 [.int (nI f0), .int (nI f1), .int (nI f2), .int (nI f3), .int (nI f4), .int (nI f5), .int (nI f6), .int (nI f7), .int (nI f8), .int (nI f9)], zrf q_2 c_2 10 (va_up (fun _ => none) 0 (some x))] ++ T) := hD
  subst hQ
  exact zw_vret (D := (dC, dI)) (cl := vwCl) (A := A) (q_2, c_2) hx hb hr hlocks (trivial) (zt_sub hP [0, 2, 1] rfl) (hK.sub [0] rfl) (zt_subD hD [0, 2, 1] (by decide) rfl) hS dAL_add_41_22

set_option maxHeartbeats 4000000 in
set_option maxRecDepth 100000 in
theorem e_AL_add (l : Launch) (dC : Nat → ClassId) (dI : Nat → Nat → Nat) (T : va_W) (al : Nat) (t : Nat) (mo : Int32) (x : Nat) (f0 : Nat) (f1 : Nat) (f2 : Nat) (f3 : Nat) (f4 : Nat) (f5 : Nat) (f6 : Nat) (f7 : Nat) (f8 : Nat) (f9 : Nat) (ty : FieldType) (mi : Nat) : zw_Mi (S := (Nat) × (ClassId)) l yAL_add wAL_add ({ frames := 4, cells := 1, slots := 10, locals := 80 }) [.ref al, .ref x] (dC, dI) vwCl ([zob al 2 [.ref t, .int (nI 0), .int mo], zob x 7 [.int (nI f0), .int (nI f1), .int (nI f2), .int (nI f3), .int (nI f4), .int (nI f5), .int (nI f6), .int (nI f7), .int (nI f8), .int (nI f9)]] ++ T) [] (zY t ty mi) (fun r u => match u with | (q2, c2) => r = 1) (fun u => match u with | (q2, c2) => ([zob al 2 [.ref q2, .int (nI 1), .int (mo + nI 1)], zrf q2 c2 10 (va_up (fun _ => none) 0 (some x)), zob x 7 [.int (nI f0), .int (nI f1), .int (nI f2), .int (nI f3), .int (nI f4), .int (nI f5), .int (nI f6), .int (nI f7), .int (nI f8), .int (nI f9)]] ++ T)) (fun u => match u with | (q2, c2) => [(c2, .object "java/lang/Object")]) 1 10 := by
  refine zw_headi (cc := cAL_add) (maxL := 2) (ret := (some .boolean)) (by decide +kernel) rfl (Nat.le_of_ble_eq_true rfl) ?_
  intro p e s m below meth c ls A F hA hP hK hD hS hX hl
  obtain ⟨hx, hb, hml, hr, hlocks, hown, hts⟩ := F
  have hown : s.vm.findClass "java/util/ArrayList" = some m.cls := hown
  have hz : ∀ w9 ∈ zT, w9.before [.ref al, .ref x].toArray s = true := fun w9 h => hts w9 (List.mem_cons_of_mem _ h)
  have hl : lv_has ls 2 [(0, .ref al), (1, .ref x)] := hl
  have hN := hX.1.1
  refine z_q (fun Q hQ => ?_)
  refine lv_aload_n hx hb dAL_add_0 rfl (lv_at hl 0 rfl) ?_
  refine lv_dup hx hb dAL_add_1 rfl ?_
  refine va_get (D := (dC, dI)) (ci := 2) (v := .int mo) (C := RAL) (T := TAL) (N := 3) hx hb hz in_AL hown hK hP 0 rfl rfl 2 (by decide) (hz _ wd_76) (fun x9 h9 => u_same (hz _ wd_77) x9 h9) rfl dAL_add_2 ?_
  refine lv_iconst (v := nI 1) hx hb dAL_add_5 (by decide) ?_
  refine lv_iadd hx hb dAL_add_6 ?_
  refine va_put (D := (dC, dI)) (ci := 2) (v := .int (mo + (nI 1))) (ty := .int) (C := RAL) (T := TAL) (N := 3) hx hb hz in_AL tyAL tokAL nokAL hown hK hP hD hS 0 rfl rfl 2 (by decide) (hz _ wd_76) (fun x9 h9 => u_same (hz _ wd_77) x9 h9) rfl (by decide +kernel) rfl rfl (Nat.le_of_ble_eq_true rfl) dAL_add_7 (fun H locs hP hD hS => ?_)
  have hP : va_P (dC, dI) vwCl ([zob al 2 [.ref t, .int (nI 0), .int (mo + (nI 1))], zob x 7 [.int (nI f0), .int (nI f1), .int (nI f2), .int (nI f3), .int (nI f4), .int (nI f5), .int (nI f6), .int (nI f7), .int (nI f8), .int (nI f9)]] ++ T) H := hP
  have hD : va_D A ([zob al 2 [.ref t, .int (nI 0), .int (mo + (nI 1))], zob x 7 [.int (nI f0), .int (nI f1), .int (nI f2), .int (nI f3), .int (nI f4), .int (nI f5), .int (nI f6), .int (nI f7), .int (nI f8), .int (nI f9)]] ++ T) := hD
  refine lv_aload_n hx hb dAL_add_10 rfl (lv_at hl 0 rfl) ?_
  refine lv_aload_n hx hb dAL_add_11 rfl (lv_at hl 1 rfl) ?_
  refine lv_aload_n hx hb dAL_add_12 rfl (lv_at hl 0 rfl) ?_
  refine va_get (D := (dC, dI)) (ci := 2) (v := .ref t) (C := RAL) (T := TAL) (N := 3) hx hb hz in_AL hown hK hP 0 rfl rfl 0 (by decide) (hz _ wd_73) (fun _ h9 => h9) rfl dAL_add_13 ?_
  refine lv_aload_n hx hb dAL_add_16 rfl (lv_at hl 0 rfl) ?_
  refine va_get (D := (dC, dI)) (ci := 2) (v := .int (nI 0)) (C := RAL) (T := TAL) (N := 3) hx hb hz in_AL hown hK hP 0 rfl rfl 1 (by decide) (hz _ wd_74) (fun _ h9 => h9) rfl dAL_add_17 ?_
  refine zw_callTv (wr := []) hK hP hD hS hA [0, 1] [] rfl rfl (by decide) (by decide) (va_runV (As := [.ref x, .ref t, .int (nI 0)]) (rest := []) ⟨hx, hb, hml, hown, hz⟩ ((e_AL_add_41 l dC dI T al t (mo + (nI 1)) x f0 f1 f2 f3 f4 f5 f6 f7 f8 f9 ty mi ) H.size) (cwV 3 hz (z_gV wd_302 wd_304 wd_2 wd_33 wd_305) rfl rfl rfl (by decide +kernel) ⟨Nat.le_of_ble_eq_true rfl, Nat.le_of_ble_eq_true rfl⟩) (zw_preVT hK hP hD (va_recv (q0 := 0) hK hP (q := (RAL, TAL, 3)) rfl rfl) [0, 1] (by decide) rfl [] rfl zY_blind (zY_call hX hS (z_freeT hD hS hA [0, 1] rfl))) rfl rfl hl.1 rfl (lv_room (Nat.le_of_ble_eq_true rfl)) dAL_add_20 ⟨Nat.le_of_ble_eq_true rfl, Nat.le_of_ble_eq_true rfl⟩) (fun u H locs h_r1 hP hD hK hS => ?_)
  obtain ⟨q_2, c_2⟩ := u
  have hP : va_P (dC, dI) vwCl ([zob al 2 [.ref q_2, .int (nI 1), .int (mo + (nI 1))], zob x 7 [.int (nI f0), .int (nI f1), .int (nI f2), .int (nI f3), .int (nI f4), .int (nI f5), .int (nI f6), .int (nI f7), .int (nI f8), .int (nI f9)], zrf q_2 c_2 10 (va_up (fun _ => none) 0 (some x))] ++ T) H := zt_sub hP [0, 2, 1] rfl
  have hD : va_D A ([zob al 2 [.ref q_2, .int (nI 1), .int (mo + (nI 1))], zob x 7 [.int (nI f0), .int (nI f1), .int (nI f2), .int (nI f3), .int (nI f4), .int (nI f5), .int (nI f6), .int (nI f7), .int (nI f8), .int (nI f9)], zrf q_2 c_2 10 (va_up (fun _ => none) 0 (some x))] ++ T) := zt_subD hD [0, 2, 1] (by decide) rfl
  have hK : va_K (dC, dI) vwCl [(c_2, .object "java/lang/Object")] s := hK
  refine W.widen (k := 1) (n := 10) (Nat.le_of_ble_eq_true rfl) (Nat.le_of_ble_eq_true rfl) ?_
  refine lv_iconst (v := nI 1) hx hb dAL_add_23 (by decide) ?_
  subst hQ
  exact zw_zret (D := (dC, dI)) (cl := vwCl) (A := A) (q_2, c_2) hx hb hr hlocks (Or.inr rfl) (rfl) (zt_sub hP [0, 2, 1] rfl) (hK.sub [0] rfl) (zt_subD hD [0, 2, 1] (by decide) rfl) hS dAL_add_24
