set_option maxHeartbeats 4000000 in
set_option maxRecDepth 100000 in
theorem k_AC_init (l : Launch) (dC : Nat → ClassId) (dI : Nat → Nat → Nat) (a : Nat) : zw_Mv (S := Unit) l yAC_init wAC_init ({ frames := 1, cells := 0, slots := 0, locals := 12 }) [.ref a] (dC, dI) vwCl [zob a 2 [.null, .int (nI 0), .int (nI 0)]] [] (fun _ _ => True) (fun (_ : Unit) => True) (fun (_ : Unit) => [zob a 2 [.null, .int (nI 0), .int (nI 0)]]) (fun (_ : Unit) => []) 0 0 := by
  refine zw_headv (cc := cAC_init) (maxL := 1) (ret := none) (by decide +kernel) rfl (Nat.le_of_ble_eq_true rfl) ?_
  intro p e s m below meth c ls A F hnm hA hP hK hD hS hX hl
  obtain ⟨hx, hb, hml, hr, hlocks, hown, hts⟩ := F
  have hown : s.vm.findClass "java/util/AbstractCollection" = some m.cls := hown
  have hz : ∀ w9 ∈ zT, w9.before [.ref a].toArray s = true := fun w9 h => hts w9 (List.mem_cons_of_mem _ h)
  have hl : lv_has ls 1 [(0, .ref a)] := hl
  have hin : meth.name = "<init>" := hnm
  refine z_q (fun Q hQ => ?_)
  refine lv_aload_n hx hb dAC_init_0 rfl (lv_at hl 0 rfl) ?_
  refine W.objInit hx hb hown (hz _ wd_70) (hz _ wd_51) (hz _ wd_52) rfl (by rw [hml]; exact hl.1) rfl dAC_init_1 (Nat.le_of_ble_eq_true rfl) (Nat.le_of_ble_eq_true rfl) ?_
  refine W.eq (g2 := F0 m 4 ls []) rfl ?_
  subst hQ
  exact zw_vret (D := (dC, dI)) (cl := vwCl) (A := A) () hx hb hr hlocks (trivial) (hP.sub [0] rfl) (hK.sub [] rfl) (hD.sub [0] (by decide) rfl) hS dAC_init_4

set_option maxHeartbeats 4000000 in
set_option maxRecDepth 100000 in
theorem k_AB_init (l : Launch) (dC : Nat → ClassId) (dI : Nat → Nat → Nat) (a : Nat) : zw_Mv (S := Unit) l yAB_init wAB_init ({ frames := 2, cells := 0, slots := 0, locals := 32 }) [.ref a] (dC, dI) vwCl [zob a 2 [.null, .int (nI 0), .int (nI 0)]] [] (fun _ _ => True) (fun (_ : Unit) => True) (fun (_ : Unit) => [zob a 2 [.null, .int (nI 0), .int (nI 0)]]) (fun (_ : Unit) => []) 0 0 := by
  refine zw_headv (cc := cAB_init) (maxL := 1) (ret := none) (by decide +kernel) rfl (Nat.le_of_ble_eq_true rfl) ?_
  intro p e s m below meth c ls A F hnm hA hP hK hD hS hX hl
  obtain ⟨hx, hb, hml, hr, hlocks, hown, hts⟩ := F
  have hown : s.vm.findClass "java/util/AbstractList" = some m.cls := hown
  have hz : ∀ w9 ∈ zT, w9.before [.ref a].toArray s = true := fun w9 h => hts w9 (List.mem_cons_of_mem _ h)
  have hl : lv_has ls 1 [(0, .ref a)] := hl
  have hin : meth.name = "<init>" := hnm
  refine z_q (fun Q hQ => ?_)
  refine lv_aload_n hx hb dAB_init_0 rfl (lv_at hl 0 rfl) ?_
  refine zw_callv (wr := []) hK hP hD hS hA [0] [] rfl rfl (by decide) (by decide) (va_runI (As := []) (rest := []) ⟨hx, hb, hml, hown, hz⟩ ((k_AC_init l dC dI a ) s.heap.size) (cwI 0 hz (z_gI wd_69) rfl rfl rfl (hz _ wd_31) (hz _ wd_67) (hz _ wd_68) rfl (by decide +kernel) ⟨Nat.le_of_ble_eq_true rfl, Nat.le_of_ble_eq_true rfl⟩) (zw_preS hK hP hD [0] (by decide) rfl [] rfl z_true (fun _ _ _ => trivial)) rfl rfl hl.1 rfl (lv_room (Nat.le_of_ble_eq_true rfl)) dAB_init_1 ⟨Nat.le_of_ble_eq_true rfl, Nat.le_of_ble_eq_true rfl⟩) (fun u H locs h_r1 hP hD hK hS => ?_)
  have hP : va_P (dC, dI) vwCl [zob a 2 [.null, .int (nI 0), .int (nI 0)]] H := hP.sub [0] rfl
  have hD : va_D A [zob a 2 [.null, .int (nI 0), .int (nI 0)]] := hD.sub [0] (by decide) rfl
  have hK : va_K (dC, dI) vwCl [] s := hK
  refine lv_aload_n hx hb dAB_init_4 rfl (lv_at hl 0 rfl) ?_
  refine lv_iconst (v := nI 0) hx hb dAB_init_5 (by decide) ?_
  refine va_put (D := (dC, dI)) (ci := 2) (v := .int (nI 0)) (ty := .int) (C := RAL) (T := TAL) (N := 3) hx hb hz in_AL tyAL tokAL nokAL hown hK hP hD hS 0 rfl rfl 2 (by decide) (hz _ wd_75) (fun _ h9 => h9) rfl (by decide +kernel) rfl rfl (Nat.le_of_ble_eq_true rfl) dAB_init_6 (fun H locs hP hD hS => ?_)
  have hP : va_P (dC, dI) vwCl [zob a 2 [.null, .int (nI 0), .int (nI 0)]] H := hP
  have hD : va_D A [zob a 2 [.null, .int (nI 0), .int (nI 0)]] := hD
  subst hQ
  exact zw_vret (D := (dC, dI)) (cl := vwCl) (A := A) () hx hb hr hlocks (trivial) (hP.sub [0] rfl) (hK.sub [] rfl) (hD.sub [0] (by decide) rfl) hS dAB_init_9

set_option maxHeartbeats 4000000 in
set_option maxRecDepth 100000 in
theorem k_AL_init (l : Launch) (dC : Nat → ClassId) (dI : Nat → Nat → Nat) (a : Nat) (t : Nat) : zw_Mv (S := Unit) l yAL_init wAL_init ({ frames := 3, cells := 0, slots := 0, locals := 52 }) [.ref a] (dC, dI) vwCl [zob a 2 [.null, .int (nI 0), .int (nI 0)]] [] (zX t) (fun (_ : Unit) => True) (fun (_ : Unit) => [zob a 2 [.ref t, .int (nI 0), .int (nI 0)]]) (fun (_ : Unit) => []) 0 0 := by
  refine zw_headv (cc := cAL_init) (maxL := 1) (ret := none) (by decide +kernel) rfl (Nat.le_of_ble_eq_true rfl) ?_
  intro p e s m below meth c ls A F hnm hA hP hK hD hS hX hl
  obtain ⟨hx, hb, hml, hr, hlocks, hown, hts⟩ := F
  have hown : s.vm.findClass "java/util/ArrayList" = some m.cls := hown
  have hz : ∀ w9 ∈ zT, w9.before [.ref a].toArray s = true := fun w9 h => hts w9 (List.mem_cons_of_mem _ h)
  have hl : lv_has ls 1 [(0, .ref a)] := hl
  have hin : meth.name = "<init>" := hnm
  have hN := hX.1
  refine z_q (fun Q hQ => ?_)
  refine lv_aload_n hx hb dAL_init_0 rfl (lv_at hl 0 rfl) ?_
  refine zw_callv (wr := []) hK hP hD hS hA [0] [] rfl rfl (by decide) (by decide) (va_runI (As := []) (rest := []) ⟨hx, hb, hml, hown, hz⟩ ((k_AB_init l dC dI a ) s.heap.size) (cwI 0 hz (z_gI wd_66) rfl rfl rfl (hz _ wd_32) (hz _ wd_64) (hz _ wd_65) rfl (by decide +kernel) ⟨Nat.le_of_ble_eq_true rfl, Nat.le_of_ble_eq_true rfl⟩) (zw_preS hK hP hD [0] (by decide) rfl [] rfl z_true (fun _ _ _ => trivial)) rfl rfl hl.1 rfl (lv_room (Nat.le_of_ble_eq_true rfl)) dAL_init_1 ⟨Nat.le_of_ble_eq_true rfl, Nat.le_of_ble_eq_true rfl⟩) (fun u H locs h_r1 hP hD hK hS => ?_)
  have hP : va_P (dC, dI) vwCl [zob a 2 [.null, .int (nI 0), .int (nI 0)]] H := hP.sub [0] rfl
  have hD : va_D A [zob a 2 [.null, .int (nI 0), .int (nI 0)]] := hD.sub [0] (by decide) rfl
  have hK : va_K (dC, dI) vwCl [] s := hK
  refine lv_aload_n hx hb dAL_init_4 rfl (lv_at hl 0 rfl) ?_
  refine va_gets (v := .ref t) hx hb hX.2 hS hown (hz _ wd_71) (fun _ h9 => h9) dAL_init_5 ?_
  refine va_put (D := (dC, dI)) (ci := 2) (v := .ref t) (ty := .array (.object "java/lang/Object")) (C := RAL) (T := TAL) (N := 3) hx hb hz in_AL tyAL tokAL nokAL hown hK hP hD hS 0 rfl rfl 0 (by decide) (hz _ wd_73) (fun _ h9 => h9) rfl (by decide +kernel) rfl rfl (Nat.le_of_ble_eq_true rfl) dAL_init_8 (fun H locs hP hD hS => ?_)
  have hP : va_P (dC, dI) vwCl [zob a 2 [.ref t, .int (nI 0), .int (nI 0)]] H := hP
  have hD : va_D A [zob a 2 [.ref t, .int (nI 0), .int (nI 0)]] := hD
  subst hQ
  exact zw_vret (D := (dC, dI)) (cl := vwCl) (A := A) () hx hb hr hlocks (trivial) (hP.sub [0] rfl) (hK.sub [] rfl) (hD.sub [0] (by decide) rfl) hS dAL_init_11

set_option maxHeartbeats 4000000 in
set_option maxRecDepth 100000 in
theorem k_GR_init (l : Launch) (dC : Nat → ClassId) (dI : Nat → Nat → Nat) (g : Nat) (t : Nat) : zw_Mv (S := (Nat)) l yGR_init wGR_init ({ frames := 4, cells := 1, slots := 3, locals := 72 }) [.ref g] (dC, dI) vwCl [zob g 1 [.null, .int (nI 0), .int (nI 0), .int (nI 0), .int (nI 0), .int (nI 0)]] [] (zX t) (fun (al : Nat) => True) (fun (al : Nat) => [zob g 1 [.ref al, .int (nI 1), .int (nI 0), .int (nI 0), .int (nI 0), .int (nI 0)], zob al 2 [.ref t, .int (nI 0), .int (nI 0)]]) (fun (al : Nat) => []) 1 3 := by
  refine zw_headv (cc := cGR_init) (maxL := 1) (ret := none) (by decide +kernel) rfl (Nat.le_of_ble_eq_true rfl) ?_
  intro p e s m below meth c ls A F hnm hA hP hK hD hS hX hl
  obtain ⟨hx, hb, hml, hr, hlocks, hown, hts⟩ := F
  have hown : s.vm.findClass "SpannedCells$Grid" = some m.cls := hown
  have hz : ∀ w9 ∈ zT, w9.before [.ref g].toArray s = true := fun w9 h => hts w9 (List.mem_cons_of_mem _ h)
  have hl : lv_has ls 1 [(0, .ref g)] := hl
  have hin : meth.name = "<init>" := hnm
  have hN := hX.1
  refine z_q (fun Q hQ => ?_)
  refine lv_aload_n hx hb dGR_init_0 rfl (lv_at hl 0 rfl) ?_
  refine W.objInit hx hb hown (hz _ wd_58) (hz _ wd_51) (hz _ wd_52) rfl (by rw [hml]; exact hl.1) rfl dGR_init_1 (Nat.le_of_ble_eq_true rfl) (Nat.le_of_ble_eq_true rfl) ?_
  refine W.eq (g2 := F0 m 4 ls []) rfl ?_
  refine lv_aload_n hx hb dGR_init_4 rfl (lv_at hl 0 rfl) ?_
  refine va_new (ci := 2) (fs := [.null, .int (nI 0), .int (nI 0)]) (C := RAL) (T := TAL) (N := 3) hx hb hz in_AL tyAL tokAL hown (hz _ wd_59) (hz _ wd_60) (hz _ wd_33) hK hP hD hS hA rfl (by decide +kernel) (Nat.le_of_ble_eq_true rfl) (Nat.le_of_ble_eq_true rfl) dGR_init_5 (fun q1 H hP hD hS => ?_)
  have hP : va_P (dC, dI) vwCl [zob g 1 [.null, .int (nI 0), .int (nI 0), .int (nI 0), .int (nI 0), .int (nI 0)], zob q1 2 [.null, .int (nI 0), .int (nI 0)]] H := hP
  have hD : va_D A [zob g 1 [.null, .int (nI 0), .int (nI 0), .int (nI 0), .int (nI 0), .int (nI 0)], zob q1 2 [.null, .int (nI 0), .int (nI 0)]] := hD
  refine W.widen (k := 1) (n := 3) (Nat.le_of_ble_eq_true rfl) (Nat.le_of_ble_eq_true rfl) ?_
  refine lv_dup hx hb dGR_init_8 rfl ?_
  refine zw_callv (wr := [zob g 1 [.null, .int (nI 0), .int (nI 0), .int (nI 0), .int (nI 0), .int (nI 0)]]) hK hP hD hS hA [1] [0] rfl rfl (by decide) (by decide) (va_runI (As := []) (rest := [.ref q1, .ref g]) ⟨hx, hb, hml, hown, hz⟩ ((k_AL_init l dC dI q1 t ) H.size) (cwI 0 hz (z_gI wd_63) rfl rfl rfl (hz _ wd_33) (hz _ wd_61) (hz _ wd_62) rfl (by decide +kernel) ⟨Nat.le_of_ble_eq_true rfl, Nat.le_of_ble_eq_true rfl⟩) (zw_preS hK hP hD [1] (by decide) rfl [] rfl zX_blind (zX_call hX hS (va_free hD hS hA [1] rfl))) rfl rfl hl.1 rfl (lv_room (Nat.le_of_ble_eq_true rfl)) dGR_init_9 ⟨Nat.le_of_ble_eq_true rfl, Nat.le_of_ble_eq_true rfl⟩) (fun u H locs h_r2 hP hD hK hS => ?_)
  have hP : va_P (dC, dI) vwCl [zob g 1 [.null, .int (nI 0), .int (nI 0), .int (nI 0), .int (nI 0), .int (nI 0)], zob q1 2 [.ref t, .int (nI 0), .int (nI 0)]] H := hP.sub [0, 1] rfl
  have hD : va_D A [zob g 1 [.null, .int (nI 0), .int (nI 0), .int (nI 0), .int (nI 0), .int (nI 0)], zob q1 2 [.ref t, .int (nI 0), .int (nI 0)]] := hD.sub [0, 1] (by decide) rfl
  have hK : va_K (dC, dI) vwCl [] s := hK
  refine va_putF (D := (dC, dI)) (ci := 1) (v := .ref q1) (ty := .object "java/util/ArrayList") (C := RGR) (T := TGR) (N := 6) hx hb hz in_GR tyGR tokGR nokGR hown hK hP hD hS 0 rfl rfl 0 (by decide) (hz _ wd_85) (fun _ h9 => h9) rfl hin rfl (by decide +kernel) rfl rfl (Nat.le_of_ble_eq_true rfl) dGR_init_12 (fun H locs hP hD hS => ?_)
  have hP : va_P (dC, dI) vwCl [zob g 1 [.ref q1, .int (nI 0), .int (nI 0), .int (nI 0), .int (nI 0), .int (nI 0)], zob q1 2 [.ref t, .int (nI 0), .int (nI 0)]] H := hP
  have hD : va_D A [zob g 1 [.ref q1, .int (nI 0), .int (nI 0), .int (nI 0), .int (nI 0), .int (nI 0)], zob q1 2 [.ref t, .int (nI 0), .int (nI 0)]] := hD
  refine lv_aload_n hx hb dGR_init_15 rfl (lv_at hl 0 rfl) ?_
  refine lv_iconst (v := nI 1) hx hb dGR_init_16 (by decide) ?_
  refine va_put (D := (dC, dI)) (ci := 1) (v := .int (nI 1)) (ty := .int) (C := RGR) (T := TGR) (N := 6) hx hb hz in_GR tyGR tokGR nokGR hown hK hP hD hS 0 rfl rfl 1 (by decide) (hz _ wd_86) (fun _ h9 => h9) rfl (by decide +kernel) rfl rfl (Nat.le_of_ble_eq_true rfl) dGR_init_17 (fun H locs hP hD hS => ?_)
  have hP : va_P (dC, dI) vwCl [zob g 1 [.ref q1, .int (nI 1), .int (nI 0), .int (nI 0), .int (nI 0), .int (nI 0)], zob q1 2 [.ref t, .int (nI 0), .int (nI 0)]] H := hP
  have hD : va_D A [zob g 1 [.ref q1, .int (nI 1), .int (nI 0), .int (nI 0), .int (nI 0), .int (nI 0)], zob q1 2 [.ref t, .int (nI 0), .int (nI 0)]] := hD
  refine lv_aload_n hx hb dGR_init_20 rfl (lv_at hl 0 rfl) ?_
  refine lv_iconst (v := nI 0) hx hb dGR_init_21 (by decide) ?_
  refine va_put (D := (dC, dI)) (ci := 1) (v := .int (nI 0)) (ty := .int) (C := RGR) (T := TGR) (N := 6) hx hb hz in_GR tyGR tokGR nokGR hown hK hP hD hS 0 rfl rfl 2 (by decide) (hz _ wd_87) (fun _ h9 => h9) rfl (by decide +kernel) rfl rfl (Nat.le_of_ble_eq_true rfl) dGR_init_22 (fun H locs hP hD hS => ?_)
  have hP : va_P (dC, dI) vwCl [zob g 1 [.ref q1, .int (nI 1), .int (nI 0), .int (nI 0), .int (nI 0), .int (nI 0)], zob q1 2 [.ref t, .int (nI 0), .int (nI 0)]] H := hP
  have hD : va_D A [zob g 1 [.ref q1, .int (nI 1), .int (nI 0), .int (nI 0), .int (nI 0), .int (nI 0)], zob q1 2 [.ref t, .int (nI 0), .int (nI 0)]] := hD
  refine lv_aload_n hx hb dGR_init_25 rfl (lv_at hl 0 rfl) ?_
  refine lv_iconst (v := nI 0) hx hb dGR_init_26 (by decide) ?_
  refine va_put (D := (dC, dI)) (ci := 1) (v := .int (nI 0)) (ty := .int) (C := RGR) (T := TGR) (N := 6) hx hb hz in_GR tyGR tokGR nokGR hown hK hP hD hS 0 rfl rfl 3 (by decide) (hz _ wd_88) (fun _ h9 => h9) rfl (by decide +kernel) rfl rfl (Nat.le_of_ble_eq_true rfl) dGR_init_27 (fun H locs hP hD hS => ?_)
  have hP : va_P (dC, dI) vwCl [zob g 1 [.ref q1, .int (nI 1), .int (nI 0), .int (nI 0), .int (nI 0), .int (nI 0)], zob q1 2 [.ref t, .int (nI 0), .int (nI 0)]] H := hP
  have hD : va_D A [zob g 1 [.ref q1, .int (nI 1), .int (nI 0), .int (nI 0), .int (nI 0), .int (nI 0)], zob q1 2 [.ref t, .int (nI 0), .int (nI 0)]] := hD
  refine lv_aload_n hx hb dGR_init_30 rfl (lv_at hl 0 rfl) ?_
  refine lv_iconst (v := nI 0) hx hb dGR_init_31 (by decide) ?_
  refine va_put (D := (dC, dI)) (ci := 1) (v := .int (nI 0)) (ty := .int) (C := RGR) (T := TGR) (N := 6) hx hb hz in_GR tyGR tokGR nokGR hown hK hP hD hS 0 rfl rfl 4 (by decide) (hz _ wd_89) (fun _ h9 => h9) rfl (by decide +kernel) rfl rfl (Nat.le_of_ble_eq_true rfl) dGR_init_32 (fun H locs hP hD hS => ?_)
  have hP : va_P (dC, dI) vwCl [zob g 1 [.ref q1, .int (nI 1), .int (nI 0), .int (nI 0), .int (nI 0), .int (nI 0)], zob q1 2 [.ref t, .int (nI 0), .int (nI 0)]] H := hP
  have hD : va_D A [zob g 1 [.ref q1, .int (nI 1), .int (nI 0), .int (nI 0), .int (nI 0), .int (nI 0)], zob q1 2 [.ref t, .int (nI 0), .int (nI 0)]] := hD
  refine lv_aload_n hx hb dGR_init_35 rfl (lv_at hl 0 rfl) ?_
  refine lv_iconst (v := nI 0) hx hb dGR_init_36 (by decide) ?_
  refine va_put (D := (dC, dI)) (ci := 1) (v := .int (nI 0)) (ty := .int) (C := RGR) (T := TGR) (N := 6) hx hb hz in_GR tyGR tokGR nokGR hown hK hP hD hS 0 rfl rfl 5 (by decide) (hz _ wd_90) (fun _ h9 => h9) rfl (by decide +kernel) rfl rfl (Nat.le_of_ble_eq_true rfl) dGR_init_37 (fun H locs hP hD hS => ?_)
  have hP : va_P (dC, dI) vwCl [zob g 1 [.ref q1, .int (nI 1), .int (nI 0), .int (nI 0), .int (nI 0), .int (nI 0)], zob q1 2 [.ref t, .int (nI 0), .int (nI 0)]] H := hP
  have hD : va_D A [zob g 1 [.ref q1, .int (nI 1), .int (nI 0), .int (nI 0), .int (nI 0), .int (nI 0)], zob q1 2 [.ref t, .int (nI 0), .int (nI 0)]] := hD
  subst hQ
  exact zw_vret (D := (dC, dI)) (cl := vwCl) (A := A) q1 hx hb hr hlocks (trivial) (hP.sub [0, 1] rfl) (hK.sub [] rfl) (hD.sub [0, 1] (by decide) rfl) hS dGR_init_40

set_option maxHeartbeats 4000000 in
set_option maxRecDepth 100000 in
theorem k_LI_init (l : Launch) (dC : Nat → ClassId) (dI : Nat → Nat → Nat) (a : Nat) : zw_Mv (S := (Nat) × (ClassId)) l yLI_init wLI_init ({ frames := 1, cells := 1, slots := 12, locals := 12 }) [.ref a] (dC, dI) vwCl [zob a 4 [.null]] [] (fun _ _ => True) (fun u => match u with | (qa, ka) => True) (fun u => match u with | (qa, ka) => [zob a 4 [.ref qa], zar qa ka 12 (fun _ => nI 0)]) (fun u => match u with | (qa, ka) => [(ka, .int)]) 1 12 := by
  refine zw_headv (cc := cLI_init) (maxL := 1) (ret := none) (by decide +kernel) rfl (Nat.le_of_ble_eq_true rfl) ?_
  intro p e s m below meth c ls A F hnm hA hP hK hD hS hX hl
  obtain ⟨hx, hb, hml, hr, hlocks, hown, hts⟩ := F
  have hown : s.vm.findClass "SpannedCells$Lines" = some m.cls := hown
  have hz : ∀ w9 ∈ zT, w9.before [.ref a].toArray s = true := fun w9 h => hts w9 (List.mem_cons_of_mem _ h)
  have hl : lv_has ls 1 [(0, .ref a)] := hl
  have hin : meth.name = "<init>" := hnm
  refine z_q (fun Q hQ => ?_)
  refine lv_aload_n hx hb dLI_init_0 rfl (lv_at hl 0 rfl) ?_
  refine W.objInit hx hb hown (hz _ wd_115) (hz _ wd_51) (hz _ wd_52) rfl (by rw [hml]; exact hl.1) rfl dLI_init_1 (Nat.le_of_ble_eq_true rfl) (Nat.le_of_ble_eq_true rfl) ?_
  refine W.eq (g2 := F0 m 4 ls []) rfl ?_
  refine lv_aload_n hx hb dLI_init_4 rfl (lv_at hl 0 rfl) ?_
  refine lv_bipush (v := nI 12) hx hb dLI_init_5 (by decide) ?_
  refine va_newa (atype := .int) (ty := .int) (N' := 12) (a0 := (12, .inl (fun _ => nI 0))) hx hb (hz _ wd_120) rfl hK hP hD hS hA (fun _ => rfl) (by decide) (by decide) (by decide) (Nat.le_of_ble_eq_true rfl) (Nat.le_of_ble_eq_true rfl) dLI_init_7 (fun q1 cA2 H hK hP hD hS => ?_)
  have hP : va_P (dC, dI) vwCl [zob a 4 [.null], zar q1 cA2 12 (fun _ => nI 0)] H := hP
  have hD : va_D A [zob a 4 [.null], zar q1 cA2 12 (fun _ => nI 0)] := hD
  have hK : va_K (dC, dI) vwCl [(cA2, .int)] s := hK
  refine W.widen (k := 1) (n := 12) (Nat.le_of_ble_eq_true rfl) (Nat.le_of_ble_eq_true rfl) ?_
  refine va_putF (D := (dC, dI)) (ci := 4) (v := .ref q1) (ty := .array .int) (C := RLI) (T := TLI) (N := 1) hx hb hz in_LI tyLI tokLI nokLI hown hK hP hD hS 0 rfl rfl 0 (by decide) (hz _ wd_116) (fun _ h9 => h9) rfl hin rfl (by decide +kernel) rfl rfl (Nat.le_of_ble_eq_true rfl) dLI_init_9 (fun H locs hP hD hS => ?_)
  have hP : va_P (dC, dI) vwCl [zob a 4 [.ref q1], zar q1 cA2 12 (fun _ => nI 0)] H := hP
  have hD : va_D A [zob a 4 [.ref q1], zar q1 cA2 12 (fun _ => nI 0)] := hD
  subst hQ
  exact zw_vret (D := (dC, dI)) (cl := vwCl) (A := A) (q1, cA2) hx hb hr hlocks (trivial) (hP.sub [0, 1] rfl) (hK.sub [0] rfl) (hD.sub [0, 1] (by decide) rfl) hS dLI_init_12

set_option maxHeartbeats 4000000 in
set_option maxRecDepth 100000 in
theorem k_HE_init (l : Launch) (dC : Nat → ClassId) (dI : Nat → Nat → Nat) (hh : Nat) (t : Nat) : zw_Mv (S := (Nat) × (Nat) × (ClassId)) l yHE_init wHE_init ({ frames := 2, cells := 2, slots := 13, locals := 32 }) [.ref hh] (dC, dI) vwCl [zob hh 5 [.null]] [] (zX t) (fun u => match u with | (ln, pn, kn) => True) (fun u => match u with | (ln, pn, kn) => [zob hh 5 [.ref ln], zob ln 4 [.ref pn], zar pn kn 12 (fun _ => nI 0)]) (fun u => match u with | (ln, pn, kn) => [(kn, .int)]) 2 13 := by
  refine zw_headv (cc := cHE_init) (maxL := 1) (ret := none) (by decide +kernel) rfl (Nat.le_of_ble_eq_true rfl) ?_
  intro p e s m below meth c ls A F hnm hA hP hK hD hS hX hl
  obtain ⟨hx, hb, hml, hr, hlocks, hown, hts⟩ := F
  have hown : s.vm.findClass "SpannedCells$Heights" = some m.cls := hown
  have hz : ∀ w9 ∈ zT, w9.before [.ref hh].toArray s = true := fun w9 h => hts w9 (List.mem_cons_of_mem _ h)
  have hl : lv_has ls 1 [(0, .ref hh)] := hl
  have hin : meth.name = "<init>" := hnm
  have hN := hX.1
  refine z_q (fun Q hQ => ?_)
  refine lv_aload_n hx hb dHE_init_0 rfl (lv_at hl 0 rfl) ?_
  refine W.objInit hx hb hown (hz _ wd_142) (hz _ wd_51) (hz _ wd_52) rfl (by rw [hml]; exact hl.1) rfl dHE_init_1 (Nat.le_of_ble_eq_true rfl) (Nat.le_of_ble_eq_true rfl) ?_
  refine W.eq (g2 := F0 m 4 ls []) rfl ?_
  refine lv_aload_n hx hb dHE_init_4 rfl (lv_at hl 0 rfl) ?_
  refine va_new (ci := 4) (fs := [.null]) (C := RLI) (T := TLI) (N := 1) hx hb hz in_LI tyLI tokLI hown (hz _ wd_143) (hz _ wd_111) (hz _ wd_35) hK hP hD hS hA rfl (by decide +kernel) (Nat.le_of_ble_eq_true rfl) (Nat.le_of_ble_eq_true rfl) dHE_init_5 (fun q1 H hP hD hS => ?_)
  have hP : va_P (dC, dI) vwCl [zob hh 5 [.null], zob q1 4 [.null]] H := hP
  have hD : va_D A [zob hh 5 [.null], zob q1 4 [.null]] := hD
  refine W.widen (k := 1) (n := 1) (Nat.le_of_ble_eq_true rfl) (Nat.le_of_ble_eq_true rfl) ?_
  refine lv_dup hx hb dHE_init_8 rfl ?_
  refine zw_callv (wr := [zob hh 5 [.null]]) hK hP hD hS hA [1] [0] rfl rfl (by decide) (by decide) (va_runIN (As := []) (rest := [.ref q1, .ref hh]) ⟨hx, hb, hml, hown, hz⟩ ((k_LI_init l dC dI q1 ) H.size) ⟨va_cnB 0 hz (z_gI wd_114) rfl rfl rfl (hN ("SpannedCells$Heights", 11, yLI_init, "SpannedCells") (List.mem_of_getElem? (i := 4) rfl)) (hz _ wd_35) (by decide +kernel) ⟨Nat.le_of_ble_eq_true rfl, Nat.le_of_ble_eq_true rfl⟩, rfl, (hz _ wd_113)⟩ (zw_preS hK hP hD [1] (by decide) rfl [] rfl z_true (fun _ _ _ => trivial)) rfl rfl hl.1 rfl (lv_room (Nat.le_of_ble_eq_true rfl)) dHE_init_9 ⟨Nat.le_of_ble_eq_true rfl, Nat.le_of_ble_eq_true rfl⟩) (fun u H locs h_r4 hP hD hK hS => ?_)
  obtain ⟨qa_2, ka_3⟩ := u
  have hP : va_P (dC, dI) vwCl [zob hh 5 [.null], zob q1 4 [.ref qa_2], zar qa_2 ka_3 12 (fun _ => nI 0)] H := hP.sub [0, 1, 2] rfl
  have hD : va_D A [zob hh 5 [.null], zob q1 4 [.ref qa_2], zar qa_2 ka_3 12 (fun _ => nI 0)] := hD.sub [0, 1, 2] (by decide) rfl
  have hK : va_K (dC, dI) vwCl [(ka_3, .int)] s := hK
  refine W.widen (k := 2) (n := 13) (Nat.le_of_ble_eq_true rfl) (Nat.le_of_ble_eq_true rfl) ?_
  refine va_putF (D := (dC, dI)) (ci := 5) (v := .ref q1) (ty := .object "SpannedCells$Lines") (C := RHE) (T := THE) (N := 1) hx hb hz in_HE tyHE tokHE nokHE hown hK hP hD hS 0 rfl rfl 0 (by decide) (hz _ wd_145) (fun _ h9 => h9) rfl hin rfl (by decide +kernel) rfl rfl (Nat.le_of_ble_eq_true rfl) dHE_init_12 (fun H locs hP hD hS => ?_)
  have hP : va_P (dC, dI) vwCl [zob hh 5 [.ref q1], zob q1 4 [.ref qa_2], zar qa_2 ka_3 12 (fun _ => nI 0)] H := hP
  have hD : va_D A [zob hh 5 [.ref q1], zob q1 4 [.ref qa_2], zar qa_2 ka_3 12 (fun _ => nI 0)] := hD
  subst hQ
  exact zw_vret (D := (dC, dI)) (cl := vwCl) (A := A) (q1, qa_2, ka_3) hx hb hr hlocks (trivial) (hP.sub [0, 1, 2] rfl) (hK.sub [0] rfl) (hD.sub [0, 1, 2] (by decide) rfl) hS dHE_init_15

set_option maxHeartbeats 4000000 in
set_option maxRecDepth 100000 in
theorem k_WI_init (l : Launch) (dC : Nat → ClassId) (dI : Nat → Nat → Nat) (wd : Nat) (t : Nat) : zw_Mv (S := (Nat) × (Nat) × (Nat) × (Nat) × (Nat) × (Nat) × (Nat) × (Nat) × (ClassId) × (ClassId) × (ClassId) × (ClassId)) l yWI_init wWI_init ({ frames := 2, cells := 8, slots := 52, locals := 32 }) [.ref wd] (dC, dI) vwCl [zob wd 3 [.null, .null, .null, .null]] [] (zX t) (fun u => match u with | (l0, l1, l2, l3, p0, p1, p2, p3, kp0, kp1, kp2, kp3) => True) (fun u => match u with | (l0, l1, l2, l3, p0, p1, p2, p3, kp0, kp1, kp2, kp3) => [zob wd 3 [.ref l0, .ref l1, .ref l2, .ref l3], zob l0 4 [.ref p0], zob l1 4 [.ref p1], zob l2 4 [.ref p2], zob l3 4 [.ref p3], zar p0 kp0 12 (fun _ => nI 0), zar p1 kp1 12 (fun _ => nI 0), zar p2 kp2 12 (fun _ => nI 0), zar p3 kp3 12 (fun _ => nI 0)]) (fun u => match u with | (l0, l1, l2, l3, p0, p1, p2, p3, kp0, kp1, kp2, kp3) => [(kp0, .int), (kp1, .int), (kp2, .int), (kp3, .int)]) 8 52 := by
  refine zw_headv (cc := cWI_init) (maxL := 1) (ret := none) (by decide +kernel) rfl (Nat.le_of_ble_eq_true rfl) ?_
  intro p e s m below meth c ls A F hnm hA hP hK hD hS hX hl
  obtain ⟨hx, hb, hml, hr, hlocks, hown, hts⟩ := F
  have hown : s.vm.findClass "SpannedCells$Widths" = some m.cls := hown
  have hz : ∀ w9 ∈ zT, w9.before [.ref wd].toArray s = true := fun w9 h => hts w9 (List.mem_cons_of_mem _ h)
  have hl : lv_has ls 1 [(0, .ref wd)] := hl
  have hin : meth.name = "<init>" := hnm
  have hN := hX.1
  refine z_q (fun Q hQ => ?_)
  refine lv_aload_n hx hb dWI_init_0 rfl (lv_at hl 0 rfl) ?_
  refine W.objInit hx hb hown (hz _ wd_109) (hz _ wd_51) (hz _ wd_52) rfl (by rw [hml]; exact hl.1) rfl dWI_init_1 (Nat.le_of_ble_eq_true rfl) (Nat.le_of_ble_eq_true rfl) ?_
  refine W.eq (g2 := F0 m 4 ls []) rfl ?_
  refine lv_aload_n hx hb dWI_init_4 rfl (lv_at hl 0 rfl) ?_
  refine va_new (ci := 4) (fs := [.null]) (C := RLI) (T := TLI) (N := 1) hx hb hz in_LI tyLI tokLI hown (hz _ wd_110) (hz _ wd_111) (hz _ wd_35) hK hP hD hS hA rfl (by decide +kernel) (Nat.le_of_ble_eq_true rfl) (Nat.le_of_ble_eq_true rfl) dWI_init_5 (fun q1 H hP hD hS => ?_)
  have hP : va_P (dC, dI) vwCl [zob wd 3 [.null, .null, .null, .null], zob q1 4 [.null]] H := hP
  have hD : va_D A [zob wd 3 [.null, .null, .null, .null], zob q1 4 [.null]] := hD
  refine W.widen (k := 1) (n := 1) (Nat.le_of_ble_eq_true rfl) (Nat.le_of_ble_eq_true rfl) ?_
  refine lv_dup hx hb dWI_init_8 rfl ?_
  refine zw_callv (wr := [zob wd 3 [.null, .null, .null, .null]]) hK hP hD hS hA [1] [0] rfl rfl (by decide) (by decide) (va_runIN (As := []) (rest := [.ref q1, .ref wd]) ⟨hx, hb, hml, hown, hz⟩ ((k_LI_init l dC dI q1 ) H.size) ⟨va_cnB 0 hz (z_gI wd_114) rfl rfl rfl (hN ("SpannedCells$Widths", 11, yLI_init, "SpannedCells") (List.mem_of_getElem? (i := 2) rfl)) (hz _ wd_35) (by decide +kernel) ⟨Nat.le_of_ble_eq_true rfl, Nat.le_of_ble_eq_true rfl⟩, rfl, (hz _ wd_113)⟩ (zw_preS hK hP hD [1] (by decide) rfl [] rfl z_true (fun _ _ _ => trivial)) rfl rfl hl.1 rfl (lv_room (Nat.le_of_ble_eq_true rfl)) dWI_init_9 ⟨Nat.le_of_ble_eq_true rfl, Nat.le_of_ble_eq_true rfl⟩) (fun u H locs h_r4 hP hD hK hS => ?_)
  obtain ⟨qa_2, ka_3⟩ := u
  have hP : va_P (dC, dI) vwCl [zob wd 3 [.null, .null, .null, .null], zob q1 4 [.ref qa_2], zar qa_2 ka_3 12 (fun _ => nI 0)] H := hP.sub [0, 1, 2] rfl
  have hD : va_D A [zob wd 3 [.null, .null, .null, .null], zob q1 4 [.ref qa_2], zar qa_2 ka_3 12 (fun _ => nI 0)] := hD.sub [0, 1, 2] (by decide) rfl
  have hK : va_K (dC, dI) vwCl [(ka_3, .int)] s := hK
  refine W.widen (k := 2) (n := 13) (Nat.le_of_ble_eq_true rfl) (Nat.le_of_ble_eq_true rfl) ?_
  refine va_putF (D := (dC, dI)) (ci := 3) (v := .ref q1) (ty := .object "SpannedCells$Lines") (C := RWI) (T := TWI) (N := 4) hx hb hz in_WI tyWI tokWI nokWI hown hK hP hD hS 0 rfl rfl 0 (by decide) (hz _ wd_121) (fun _ h9 => h9) rfl hin rfl (by decide +kernel) rfl rfl (Nat.le_of_ble_eq_true rfl) dWI_init_12 (fun H locs hP hD hS => ?_)
  have hP : va_P (dC, dI) vwCl [zob wd 3 [.ref q1, .null, .null, .null], zob q1 4 [.ref qa_2], zar qa_2 ka_3 12 (fun _ => nI 0)] H := hP
  have hD : va_D A [zob wd 3 [.ref q1, .null, .null, .null], zob q1 4 [.ref qa_2], zar qa_2 ka_3 12 (fun _ => nI 0)] := hD
  refine lv_aload_n hx hb dWI_init_15 rfl (lv_at hl 0 rfl) ?_
  refine va_new (ci := 4) (fs := [.null]) (C := RLI) (T := TLI) (N := 1) hx hb hz in_LI tyLI tokLI hown (hz _ wd_110) (hz _ wd_111) (hz _ wd_35) hK hP hD hS hA rfl (by decide +kernel) (Nat.le_of_ble_eq_true rfl) (Nat.le_of_ble_eq_true rfl) dWI_init_16 (fun q5 H hP hD hS => ?_)
  have hP : va_P (dC, dI) vwCl [zob wd 3 [.ref q1, .null, .null, .null], zob q1 4 [.ref qa_2], zar qa_2 ka_3 12 (fun _ => nI 0), zob q5 4 [.null]] H := hP
  have hD : va_D A [zob wd 3 [.ref q1, .null, .null, .null], zob q1 4 [.ref qa_2], zar qa_2 ka_3 12 (fun _ => nI 0), zob q5 4 [.null]] := hD
  refine W.widen (k := 3) (n := 14) (Nat.le_of_ble_eq_true rfl) (Nat.le_of_ble_eq_true rfl) ?_
  refine lv_dup hx hb dWI_init_19 rfl ?_
  refine zw_callv (wr := [zob wd 3 [.ref q1, .null, .null, .null], zob q1 4 [.ref qa_2], zar qa_2 ka_3 12 (fun _ => nI 0)]) hK hP hD hS hA [3] [0, 1, 2] rfl rfl (by decide) (by decide) (va_runIN (As := []) (rest := [.ref q5, .ref wd]) ⟨hx, hb, hml, hown, hz⟩ ((k_LI_init l dC dI q5 ) H.size) ⟨va_cnB 0 hz (z_gI wd_114) rfl rfl rfl (hN ("SpannedCells$Widths", 11, yLI_init, "SpannedCells") (List.mem_of_getElem? (i := 2) rfl)) (hz _ wd_35) (by decide +kernel) ⟨Nat.le_of_ble_eq_true rfl, Nat.le_of_ble_eq_true rfl⟩, rfl, (hz _ wd_113)⟩ (zw_preS hK hP hD [3] (by decide) rfl [] rfl z_true (fun _ _ _ => trivial)) rfl rfl hl.1 rfl (lv_room (Nat.le_of_ble_eq_true rfl)) dWI_init_20 ⟨Nat.le_of_ble_eq_true rfl, Nat.le_of_ble_eq_true rfl⟩) (fun u H locs h_r8 hP hD hK hS => ?_)
  obtain ⟨qa_6, ka_7⟩ := u
  have hP : va_P (dC, dI) vwCl [zob wd 3 [.ref q1, .null, .null, .null], zob q1 4 [.ref qa_2], zar qa_2 ka_3 12 (fun _ => nI 0), zob q5 4 [.ref qa_6], zar qa_6 ka_7 12 (fun _ => nI 0)] H := hP.sub [0, 1, 2, 3, 4] rfl
  have hD : va_D A [zob wd 3 [.ref q1, .null, .null, .null], zob q1 4 [.ref qa_2], zar qa_2 ka_3 12 (fun _ => nI 0), zob q5 4 [.ref qa_6], zar qa_6 ka_7 12 (fun _ => nI 0)] := hD.sub [0, 1, 2, 3, 4] (by decide) rfl
  have hK : va_K (dC, dI) vwCl [(ka_3, .int), (ka_7, .int)] s := hK
  refine W.widen (k := 4) (n := 26) (Nat.le_of_ble_eq_true rfl) (Nat.le_of_ble_eq_true rfl) ?_
  refine va_putF (D := (dC, dI)) (ci := 3) (v := .ref q5) (ty := .object "SpannedCells$Lines") (C := RWI) (T := TWI) (N := 4) hx hb hz in_WI tyWI tokWI nokWI hown hK hP hD hS 0 rfl rfl 1 (by decide) (hz _ wd_123) (fun _ h9 => h9) rfl hin rfl (by decide +kernel) rfl rfl (Nat.le_of_ble_eq_true rfl) dWI_init_23 (fun H locs hP hD hS => ?_)
  have hP : va_P (dC, dI) vwCl [zob wd 3 [.ref q1, .ref q5, .null, .null], zob q1 4 [.ref qa_2], zar qa_2 ka_3 12 (fun _ => nI 0), zob q5 4 [.ref qa_6], zar qa_6 ka_7 12 (fun _ => nI 0)] H := hP
  have hD : va_D A [zob wd 3 [.ref q1, .ref q5, .null, .null], zob q1 4 [.ref qa_2], zar qa_2 ka_3 12 (fun _ => nI 0), zob q5 4 [.ref qa_6], zar qa_6 ka_7 12 (fun _ => nI 0)] := hD
  refine lv_aload_n hx hb dWI_init_26 rfl (lv_at hl 0 rfl) ?_
  refine va_new (ci := 4) (fs := [.null]) (C := RLI) (T := TLI) (N := 1) hx hb hz in_LI tyLI tokLI hown (hz _ wd_110) (hz _ wd_111) (hz _ wd_35) hK hP hD hS hA rfl (by decide +kernel) (Nat.le_of_ble_eq_true rfl) (Nat.le_of_ble_eq_true rfl) dWI_init_27 (fun q9 H hP hD hS => ?_)
  have hP : va_P (dC, dI) vwCl [zob wd 3 [.ref q1, .ref q5, .null, .null], zob q1 4 [.ref qa_2], zar qa_2 ka_3 12 (fun _ => nI 0), zob q5 4 [.ref qa_6], zar qa_6 ka_7 12 (fun _ => nI 0), zob q9 4 [.null]] H := hP
  have hD : va_D A [zob wd 3 [.ref q1, .ref q5, .null, .null], zob q1 4 [.ref qa_2], zar qa_2 ka_3 12 (fun _ => nI 0), zob q5 4 [.ref qa_6], zar qa_6 ka_7 12 (fun _ => nI 0), zob q9 4 [.null]] := hD
  refine W.widen (k := 5) (n := 27) (Nat.le_of_ble_eq_true rfl) (Nat.le_of_ble_eq_true rfl) ?_
  refine lv_dup hx hb dWI_init_30 rfl ?_
  refine zw_callv (wr := [zob wd 3 [.ref q1, .ref q5, .null, .null], zob q1 4 [.ref qa_2], zar qa_2 ka_3 12 (fun _ => nI 0), zob q5 4 [.ref qa_6], zar qa_6 ka_7 12 (fun _ => nI 0)]) hK hP hD hS hA [5] [0, 1, 2, 3, 4] rfl rfl (by decide) (by decide) (va_runIN (As := []) (rest := [.ref q9, .ref wd]) ⟨hx, hb, hml, hown, hz⟩ ((k_LI_init l dC dI q9 ) H.size) ⟨va_cnB 0 hz (z_gI wd_114) rfl rfl rfl (hN ("SpannedCells$Widths", 11, yLI_init, "SpannedCells") (List.mem_of_getElem? (i := 2) rfl)) (hz _ wd_35) (by decide +kernel) ⟨Nat.le_of_ble_eq_true rfl, Nat.le_of_ble_eq_true rfl⟩, rfl, (hz _ wd_113)⟩ (zw_preS hK hP hD [5] (by decide) rfl [] rfl z_true (fun _ _ _ => trivial)) rfl rfl hl.1 rfl (lv_room (Nat.le_of_ble_eq_true rfl)) dWI_init_31 ⟨Nat.le_of_ble_eq_true rfl, Nat.le_of_ble_eq_true rfl⟩) (fun u H locs h_r12 hP hD hK hS => ?_)
  obtain ⟨qa_10, ka_11⟩ := u
  have hP : va_P (dC, dI) vwCl [zob wd 3 [.ref q1, .ref q5, .null, .null], zob q1 4 [.ref qa_2], zar qa_2 ka_3 12 (fun _ => nI 0), zob q5 4 [.ref qa_6], zar qa_6 ka_7 12 (fun _ => nI 0), zob q9 4 [.ref qa_10], zar qa_10 ka_11 12 (fun _ => nI 0)] H := hP.sub [0, 1, 2, 3, 4, 5, 6] rfl
  have hD : va_D A [zob wd 3 [.ref q1, .ref q5, .null, .null], zob q1 4 [.ref qa_2], zar qa_2 ka_3 12 (fun _ => nI 0), zob q5 4 [.ref qa_6], zar qa_6 ka_7 12 (fun _ => nI 0), zob q9 4 [.ref qa_10], zar qa_10 ka_11 12 (fun _ => nI 0)] := hD.sub [0, 1, 2, 3, 4, 5, 6] (by decide) rfl
  have hK : va_K (dC, dI) vwCl [(ka_3, .int), (ka_7, .int), (ka_11, .int)] s := hK
  refine W.widen (k := 6) (n := 39) (Nat.le_of_ble_eq_true rfl) (Nat.le_of_ble_eq_true rfl) ?_
  refine va_putF (D := (dC, dI)) (ci := 3) (v := .ref q9) (ty := .object "SpannedCells$Lines") (C := RWI) (T := TWI) (N := 4) hx hb hz in_WI tyWI tokWI nokWI hown hK hP hD hS 0 rfl rfl 2 (by decide) (hz _ wd_125) (fun _ h9 => h9) rfl hin rfl (by decide +kernel) rfl rfl (Nat.le_of_ble_eq_true rfl) dWI_init_34 (fun H locs hP hD hS => ?_)
  have hP : va_P (dC, dI) vwCl [zob wd 3 [.ref q1, .ref q5, .ref q9, .null], zob q1 4 [.ref qa_2], zar qa_2 ka_3 12 (fun _ => nI 0), zob q5 4 [.ref qa_6], zar qa_6 ka_7 12 (fun _ => nI 0), zob q9 4 [.ref qa_10], zar qa_10 ka_11 12 (fun _ => nI 0)] H := hP
  have hD : va_D A [zob wd 3 [.ref q1, .ref q5, .ref q9, .null], zob q1 4 [.ref qa_2], zar qa_2 ka_3 12 (fun _ => nI 0), zob q5 4 [.ref qa_6], zar qa_6 ka_7 12 (fun _ => nI 0), zob q9 4 [.ref qa_10], zar qa_10 ka_11 12 (fun _ => nI 0)] := hD
  refine lv_aload_n hx hb dWI_init_37 rfl (lv_at hl 0 rfl) ?_
  refine va_new (ci := 4) (fs := [.null]) (C := RLI) (T := TLI) (N := 1) hx hb hz in_LI tyLI tokLI hown (hz _ wd_110) (hz _ wd_111) (hz _ wd_35) hK hP hD hS hA rfl (by decide +kernel) (Nat.le_of_ble_eq_true rfl) (Nat.le_of_ble_eq_true rfl) dWI_init_38 (fun q13 H hP hD hS => ?_)
  have hP : va_P (dC, dI) vwCl [zob wd 3 [.ref q1, .ref q5, .ref q9, .null], zob q1 4 [.ref qa_2], zar qa_2 ka_3 12 (fun _ => nI 0), zob q5 4 [.ref qa_6], zar qa_6 ka_7 12 (fun _ => nI 0), zob q9 4 [.ref qa_10], zar qa_10 ka_11 12 (fun _ => nI 0), zob q13 4 [.null]] H := hP
  have hD : va_D A [zob wd 3 [.ref q1, .ref q5, .ref q9, .null], zob q1 4 [.ref qa_2], zar qa_2 ka_3 12 (fun _ => nI 0), zob q5 4 [.ref qa_6], zar qa_6 ka_7 12 (fun _ => nI 0), zob q9 4 [.ref qa_10], zar qa_10 ka_11 12 (fun _ => nI 0), zob q13 4 [.null]] := hD
  refine W.widen (k := 7) (n := 40) (Nat.le_of_ble_eq_true rfl) (Nat.le_of_ble_eq_true rfl) ?_
  refine lv_dup hx hb dWI_init_41 rfl ?_
  refine zw_callv (wr := [zob wd 3 [.ref q1, .ref q5, .ref q9, .null], zob q1 4 [.ref qa_2], zar qa_2 ka_3 12 (fun _ => nI 0), zob q5 4 [.ref qa_6], zar qa_6 ka_7 12 (fun _ => nI 0), zob q9 4 [.ref qa_10], zar qa_10 ka_11 12 (fun _ => nI 0)]) hK hP hD hS hA [7] [0, 1, 2, 3, 4, 5, 6] rfl rfl (by decide) (by decide) (va_runIN (As := []) (rest := [.ref q13, .ref wd]) ⟨hx, hb, hml, hown, hz⟩ ((k_LI_init l dC dI q13 ) H.size) ⟨va_cnB 0 hz (z_gI wd_114) rfl rfl rfl (hN ("SpannedCells$Widths", 11, yLI_init, "SpannedCells") (List.mem_of_getElem? (i := 2) rfl)) (hz _ wd_35) (by decide +kernel) ⟨Nat.le_of_ble_eq_true rfl, Nat.le_of_ble_eq_true rfl⟩, rfl, (hz _ wd_113)⟩ (zw_preS hK hP hD [7] (by decide) rfl [] rfl z_true (fun _ _ _ => trivial)) rfl rfl hl.1 rfl (lv_room (Nat.le_of_ble_eq_true rfl)) dWI_init_42 ⟨Nat.le_of_ble_eq_true rfl, Nat.le_of_ble_eq_true rfl⟩) (fun u H locs h_r16 hP hD hK hS => ?_)
  obtain ⟨qa_14, ka_15⟩ := u
  have hP : va_P (dC, dI) vwCl [zob wd 3 [.ref q1, .ref q5, .ref q9, .null], zob q1 4 [.ref qa_2], zar qa_2 ka_3 12 (fun _ => nI 0), zob q5 4 [.ref qa_6], zar qa_6 ka_7 12 (fun _ => nI 0), zob q9 4 [.ref qa_10], zar qa_10 ka_11 12 (fun _ => nI 0), zob q13 4 [.ref qa_14], zar qa_14 ka_15 12 (fun _ => nI 0)] H := hP.sub [0, 1, 2, 3, 4, 5, 6, 7, 8] rfl
  have hD : va_D A [zob wd 3 [.ref q1, .ref q5, .ref q9, .null], zob q1 4 [.ref qa_2], zar qa_2 ka_3 12 (fun _ => nI 0), zob q5 4 [.ref qa_6], zar qa_6 ka_7 12 (fun _ => nI 0), zob q9 4 [.ref qa_10], zar qa_10 ka_11 12 (fun _ => nI 0), zob q13 4 [.ref qa_14], zar qa_14 ka_15 12 (fun _ => nI 0)] := hD.sub [0, 1, 2, 3, 4, 5, 6, 7, 8] (by decide) rfl
  have hK : va_K (dC, dI) vwCl [(ka_3, .int), (ka_7, .int), (ka_11, .int), (ka_15, .int)] s := hK
  refine W.widen (k := 8) (n := 52) (Nat.le_of_ble_eq_true rfl) (Nat.le_of_ble_eq_true rfl) ?_
  refine va_putF (D := (dC, dI)) (ci := 3) (v := .ref q13) (ty := .object "SpannedCells$Lines") (C := RWI) (T := TWI) (N := 4) hx hb hz in_WI tyWI tokWI nokWI hown hK hP hD hS 0 rfl rfl 3 (by decide) (hz _ wd_127) (fun _ h9 => h9) rfl hin rfl (by decide +kernel) rfl rfl (Nat.le_of_ble_eq_true rfl) dWI_init_45 (fun H locs hP hD hS => ?_)
  have hP : va_P (dC, dI) vwCl [zob wd 3 [.ref q1, .ref q5, .ref q9, .ref q13], zob q1 4 [.ref qa_2], zar qa_2 ka_3 12 (fun _ => nI 0), zob q5 4 [.ref qa_6], zar qa_6 ka_7 12 (fun _ => nI 0), zob q9 4 [.ref qa_10], zar qa_10 ka_11 12 (fun _ => nI 0), zob q13 4 [.ref qa_14], zar qa_14 ka_15 12 (fun _ => nI 0)] H := hP
  have hD : va_D A [zob wd 3 [.ref q1, .ref q5, .ref q9, .ref q13], zob q1 4 [.ref qa_2], zar qa_2 ka_3 12 (fun _ => nI 0), zob q5 4 [.ref qa_6], zar qa_6 ka_7 12 (fun _ => nI 0), zob q9 4 [.ref qa_10], zar qa_10 ka_11 12 (fun _ => nI 0), zob q13 4 [.ref qa_14], zar qa_14 ka_15 12 (fun _ => nI 0)] := hD
  subst hQ
  exact zw_vret (D := (dC, dI)) (cl := vwCl) (A := A) (q1, q5, q9, q13, qa_2, qa_6, qa_10, qa_14, ka_3, ka_7, ka_11, ka_15) hx hb hr hlocks (trivial) (hP.sub [0, 1, 3, 5, 7, 2, 4, 6, 8] rfl) (hK.sub [0, 1, 2, 3] rfl) (hD.sub [0, 1, 3, 5, 7, 2, 4, 6, 8] (by decide) rfl) hS dWI_init_48
