set_option maxHeartbeats 4000000 in
set_option maxRecDepth 100000 in
theorem f_CE_init (l : Launch) (dC : Nat → ClassId) (dI : Nat → Nat → Nat) (a : Nat) (f0 : Nat) (f1 : Nat) (f2 : Nat) (f7 : Nat) (f3 : Nat) (f4 : Nat) (f5 : Nat) (hh : f7 ≤ 1000) : zw_Mv (S := (Nat)) l yCE_init wCE_init ({ frames := 1, cells := 0, slots := 0, locals := 12 }) [.ref a, .int (nI f0), .int (nI f1), .int (nI f2), .int (nI f7), .int (nI f3), .int (nI f4), .int (nI f5)] (dC, dI) vwCl [zob a 7 [.int (nI 0), .int (nI 0), .int (nI 0), .int (nI 0), .int (nI 0), .int (nI 0), .int (nI 0), .int (nI 0), .int (nI 0), .int (nI 0)]] [] (fun _ _ => True) (fun (gw : Nat) => gw = if f7 = 0 then 1 else 0) (fun (gw : Nat) => [zob a 7 [.int (nI f0), .int (nI f1), .int (nI f2), .int (nI f3), .int (nI f4), .int (nI f5), .int (nI gw), .int (nI f7), .int (nI 0), .int (nI 0)]]) (fun (gw : Nat) => []) 0 0 := by
  refine zw_headv (cc := cCE_init) (maxL := 8) (ret := none) (by decide +kernel) rfl (Nat.le_of_ble_eq_true rfl) ?_
  intro p e s m below meth c ls A F hnm hA hP hK hD hS hX hl
  obtain ⟨hx, hb, hml, hr, hlocks, hown, hts⟩ := F
  have hown : s.vm.findClass "SpannedCells$Cell" = some m.cls := hown
  have hz : ∀ w9 ∈ zT, w9.before [.ref a, .int (nI f0), .int (nI f1), .int (nI f2), .int (nI f7), .int (nI f3), .int (nI f4), .int (nI f5)].toArray s = true := fun w9 h => hts w9 (List.mem_cons_of_mem _ h)
  have hl : lv_has ls 8 [(0, .ref a), (1, .int (nI f0)), (2, .int (nI f1)), (3, .int (nI f2)), (4, .int (nI f7)), (5, .int (nI f3)), (6, .int (nI f4)), (7, .int (nI f5))] := hl
  have hin : meth.name = "<init>" := hnm
  refine z_q (fun Q hQ => ?_)
  refine lv_aload_n hx hb dCE_init_0 rfl (lv_at hl 0 rfl) ?_
  refine W.objInit hx hb hown (hz _ wd_250) (hz _ wd_51) (hz _ wd_52) rfl (by rw [hml]; exact hl.1) rfl dCE_init_1 (Nat.le_of_ble_eq_true rfl) (Nat.le_of_ble_eq_true rfl) ?_
  refine W.eq (g2 := F0 m 4 ls []) rfl ?_
  refine lv_aload_n hx hb dCE_init_4 rfl (lv_at hl 0 rfl) ?_
  refine lv_iconst (v := nI 0) hx hb dCE_init_5 (by decide) ?_
  refine va_put (D := (dC, dI)) (ci := 7) (v := .int (nI 0)) (ty := .int) (C := RCE) (T := TCE) (N := 10) hx hb hz in_CE tyCE tokCE nokCE hown hK hP hD hS 0 rfl rfl 8 (by decide) (hz _ wd_275) (fun _ h9 => h9) rfl (by decide +kernel) rfl rfl (Nat.le_of_ble_eq_true rfl) dCE_init_6 (fun H locs hP hD hS => ?_)
  have hP : va_P (dC, dI) vwCl [zob a 7 [.int (nI 0), .int (nI 0), .int (nI 0), .int (nI 0), .int (nI 0), .int (nI 0), .int (nI 0), .int (nI 0), .int (nI 0), .int (nI 0)]] H := hP
  have hD : va_D A [zob a 7 [.int (nI 0), .int (nI 0), .int (nI 0), .int (nI 0), .int (nI 0), .int (nI 0), .int (nI 0), .int (nI 0), .int (nI 0), .int (nI 0)]] := hD
  refine lv_aload_n hx hb dCE_init_9 rfl (lv_at hl 0 rfl) ?_
  refine lv_iconst (v := nI 0) hx hb dCE_init_10 (by decide) ?_
  refine va_put (D := (dC, dI)) (ci := 7) (v := .int (nI 0)) (ty := .int) (C := RCE) (T := TCE) (N := 10) hx hb hz in_CE tyCE tokCE nokCE hown hK hP hD hS 0 rfl rfl 9 (by decide) (hz _ wd_276) (fun _ h9 => h9) rfl (by decide +kernel) rfl rfl (Nat.le_of_ble_eq_true rfl) dCE_init_11 (fun H locs hP hD hS => ?_)
  have hP : va_P (dC, dI) vwCl [zob a 7 [.int (nI 0), .int (nI 0), .int (nI 0), .int (nI 0), .int (nI 0), .int (nI 0), .int (nI 0), .int (nI 0), .int (nI 0), .int (nI 0)]] H := hP
  have hD : va_D A [zob a 7 [.int (nI 0), .int (nI 0), .int (nI 0), .int (nI 0), .int (nI 0), .int (nI 0), .int (nI 0), .int (nI 0), .int (nI 0), .int (nI 0)]] := hD
  refine lv_aload_n hx hb dCE_init_14 rfl (lv_at hl 0 rfl) ?_
  refine lv_iload_n hx hb dCE_init_15 rfl (lv_at hl 1 rfl) ?_
  refine va_putF (D := (dC, dI)) (ci := 7) (v := .int (nI f0)) (ty := .int) (C := RCE) (T := TCE) (N := 10) hx hb hz in_CE tyCE tokCE nokCE hown hK hP hD hS 0 rfl rfl 0 (by decide) (hz _ wd_251) (fun _ h9 => h9) rfl hin rfl (by decide +kernel) rfl rfl (Nat.le_of_ble_eq_true rfl) dCE_init_16 (fun H locs hP hD hS => ?_)
  have hP : va_P (dC, dI) vwCl [zob a 7 [.int (nI f0), .int (nI 0), .int (nI 0), .int (nI 0), .int (nI 0), .int (nI 0), .int (nI 0), .int (nI 0), .int (nI 0), .int (nI 0)]] H := hP
  have hD : va_D A [zob a 7 [.int (nI f0), .int (nI 0), .int (nI 0), .int (nI 0), .int (nI 0), .int (nI 0), .int (nI 0), .int (nI 0), .int (nI 0), .int (nI 0)]] := hD
  refine lv_aload_n hx hb dCE_init_19 rfl (lv_at hl 0 rfl) ?_
  refine lv_iload_n hx hb dCE_init_20 rfl (lv_at hl 2 rfl) ?_
  refine va_putF (D := (dC, dI)) (ci := 7) (v := .int (nI f1)) (ty := .int) (C := RCE) (T := TCE) (N := 10) hx hb hz in_CE tyCE tokCE nokCE hown hK hP hD hS 0 rfl rfl 1 (by decide) (hz _ wd_255) (fun _ h9 => h9) rfl hin rfl (by decide +kernel) rfl rfl (Nat.le_of_ble_eq_true rfl) dCE_init_21 (fun H locs hP hD hS => ?_)
  have hP : va_P (dC, dI) vwCl [zob a 7 [.int (nI f0), .int (nI f1), .int (nI 0), .int (nI 0), .int (nI 0), .int (nI 0), .int (nI 0), .int (nI 0), .int (nI 0), .int (nI 0)]] H := hP
  have hD : va_D A [zob a 7 [.int (nI f0), .int (nI f1), .int (nI 0), .int (nI 0), .int (nI 0), .int (nI 0), .int (nI 0), .int (nI 0), .int (nI 0), .int (nI 0)]] := hD
  refine lv_aload_n hx hb dCE_init_24 rfl (lv_at hl 0 rfl) ?_
  refine lv_iload_n hx hb dCE_init_25 rfl (lv_at hl 3 rfl) ?_
  refine va_putF (D := (dC, dI)) (ci := 7) (v := .int (nI f2)) (ty := .int) (C := RCE) (T := TCE) (N := 10) hx hb hz in_CE tyCE tokCE nokCE hown hK hP hD hS 0 rfl rfl 2 (by decide) (hz _ wd_260) (fun _ h9 => h9) rfl hin rfl (by decide +kernel) rfl rfl (Nat.le_of_ble_eq_true rfl) dCE_init_26 (fun H locs hP hD hS => ?_)
  have hP : va_P (dC, dI) vwCl [zob a 7 [.int (nI f0), .int (nI f1), .int (nI f2), .int (nI 0), .int (nI 0), .int (nI 0), .int (nI 0), .int (nI 0), .int (nI 0), .int (nI 0)]] H := hP
  have hD : va_D A [zob a 7 [.int (nI f0), .int (nI f1), .int (nI f2), .int (nI 0), .int (nI 0), .int (nI 0), .int (nI 0), .int (nI 0), .int (nI 0), .int (nI 0)]] := hD
  refine lv_aload_n hx hb dCE_init_29 rfl (lv_at hl 0 rfl) ?_
  refine lv_iload hx hb dCE_init_30 (lv_at hl 4 rfl) ?_
  refine va_put (D := (dC, dI)) (ci := 7) (v := .int (nI f7)) (ty := .int) (C := RCE) (T := TCE) (N := 10) hx hb hz in_CE tyCE tokCE nokCE hown hK hP hD hS 0 rfl rfl 7 (by decide) (hz _ wd_271) (fun _ h9 => h9) rfl (by decide +kernel) rfl rfl (Nat.le_of_ble_eq_true rfl) dCE_init_32 (fun H locs hP hD hS => ?_)
  have hP : va_P (dC, dI) vwCl [zob a 7 [.int (nI f0), .int (nI f1), .int (nI f2), .int (nI 0), .int (nI 0), .int (nI 0), .int (nI 0), .int (nI f7), .int (nI 0), .int (nI 0)]] H := hP
  have hD : va_D A [zob a 7 [.int (nI f0), .int (nI f1), .int (nI f2), .int (nI 0), .int (nI 0), .int (nI 0), .int (nI 0), .int (nI f7), .int (nI 0), .int (nI 0)]] := hD
  refine lv_aload_n hx hb dCE_init_35 rfl (lv_at hl 0 rfl) ?_
  refine lv_iload hx hb dCE_init_36 (lv_at hl 5 rfl) ?_
  refine va_putF (D := (dC, dI)) (ci := 7) (v := .int (nI f3)) (ty := .int) (C := RCE) (T := TCE) (N := 10) hx hb hz in_CE tyCE tokCE nokCE hown hK hP hD hS 0 rfl rfl 3 (by decide) (hz _ wd_264) (fun _ h9 => h9) rfl hin rfl (by decide +kernel) rfl rfl (Nat.le_of_ble_eq_true rfl) dCE_init_38 (fun H locs hP hD hS => ?_)
  have hP : va_P (dC, dI) vwCl [zob a 7 [.int (nI f0), .int (nI f1), .int (nI f2), .int (nI f3), .int (nI 0), .int (nI 0), .int (nI 0), .int (nI f7), .int (nI 0), .int (nI 0)]] H := hP
  have hD : va_D A [zob a 7 [.int (nI f0), .int (nI f1), .int (nI f2), .int (nI f3), .int (nI 0), .int (nI 0), .int (nI 0), .int (nI f7), .int (nI 0), .int (nI 0)]] := hD
  refine lv_aload_n hx hb dCE_init_41 rfl (lv_at hl 0 rfl) ?_
  refine lv_iload hx hb dCE_init_42 (lv_at hl 6 rfl) ?_
  refine va_putF (D := (dC, dI)) (ci := 7) (v := .int (nI f4)) (ty := .int) (C := RCE) (T := TCE) (N := 10) hx hb hz in_CE tyCE tokCE nokCE hown hK hP hD hS 0 rfl rfl 4 (by decide) (hz _ wd_266) (fun _ h9 => h9) rfl hin rfl (by decide +kernel) rfl rfl (Nat.le_of_ble_eq_true rfl) dCE_init_44 (fun H locs hP hD hS => ?_)
  have hP : va_P (dC, dI) vwCl [zob a 7 [.int (nI f0), .int (nI f1), .int (nI f2), .int (nI f3), .int (nI f4), .int (nI 0), .int (nI 0), .int (nI f7), .int (nI 0), .int (nI 0)]] H := hP
  have hD : va_D A [zob a 7 [.int (nI f0), .int (nI f1), .int (nI f2), .int (nI f3), .int (nI f4), .int (nI 0), .int (nI 0), .int (nI f7), .int (nI 0), .int (nI 0)]] := hD
  refine lv_aload_n hx hb dCE_init_47 rfl (lv_at hl 0 rfl) ?_
  refine lv_iload hx hb dCE_init_48 (lv_at hl 7 rfl) ?_
  refine va_putF (D := (dC, dI)) (ci := 7) (v := .int (nI f5)) (ty := .int) (C := RCE) (T := TCE) (N := 10) hx hb hz in_CE tyCE tokCE nokCE hown hK hP hD hS 0 rfl rfl 5 (by decide) (hz _ wd_268) (fun _ h9 => h9) rfl hin rfl (by decide +kernel) rfl rfl (Nat.le_of_ble_eq_true rfl) dCE_init_50 (fun H locs hP hD hS => ?_)
  have hP : va_P (dC, dI) vwCl [zob a 7 [.int (nI f0), .int (nI f1), .int (nI f2), .int (nI f3), .int (nI f4), .int (nI f5), .int (nI 0), .int (nI f7), .int (nI 0), .int (nI 0)]] H := hP
  have hD : va_D A [zob a 7 [.int (nI f0), .int (nI f1), .int (nI f2), .int (nI f3), .int (nI f4), .int (nI f5), .int (nI 0), .int (nI f7), .int (nI 0), .int (nI 0)]] := hD
  refine lv_aload_n hx hb dCE_init_53 rfl (lv_at hl 0 rfl) ?_
  refine lv_iload hx hb dCE_init_54 (lv_at hl 4 rfl) ?_
  have t1 := nI_toInt (n := f7) (by omega)
  have t2 : (0 : Int32).toInt = 0 := by decide
  refine lv_if_ne (tgt := 63) hx hb dCE_init_56 rfl (fun h1 => ?_) (fun h1 => ?_)
  · have h1 := z_ne h1
    refine lv_iconst (v := nI 0) hx hb dCE_init_63 (by decide) ?_
    refine va_putF (D := (dC, dI)) (ci := 7) (v := .int (nI 0)) (ty := .boolean) (C := RCE) (T := TCE) (N := 10) hx hb hz in_CE tyCE tokCE nokCE hown hK hP hD hS 0 rfl rfl 6 (by decide) (hz _ wd_270) (fun _ h9 => h9) rfl hin rfl (by decide +kernel) rfl rfl (Nat.le_of_ble_eq_true rfl) dCE_init_64 (fun H locs hP hD hS => ?_)
    have hP : va_P (dC, dI) vwCl [zob a 7 [.int (nI f0), .int (nI f1), .int (nI f2), .int (nI f3), .int (nI f4), .int (nI f5), .int (nI 0), .int (nI f7), .int (nI 0), .int (nI 0)]] H := hP
    have hD : va_D A [zob a 7 [.int (nI f0), .int (nI f1), .int (nI f2), .int (nI f3), .int (nI f4), .int (nI f5), .int (nI 0), .int (nI f7), .int (nI 0), .int (nI 0)]] := hD
    subst hQ
    exact zw_vret (D := (dC, dI)) (cl := vwCl) (A := A) 0 hx hb hr hlocks ((if_neg (by omega)).symm) (hP.sub [0] rfl) (hK.sub [] rfl) (hD.sub [0] (by decide) rfl) hS dCE_init_67
  · have h1 := z_eq h1
    refine lv_iconst (v := nI 1) hx hb dCE_init_59 (by decide) ?_
    refine lv_goto (tgt := 64) hx hb dCE_init_60 rfl ?_
    refine va_putF (D := (dC, dI)) (ci := 7) (v := .int (nI 1)) (ty := .boolean) (C := RCE) (T := TCE) (N := 10) hx hb hz in_CE tyCE tokCE nokCE hown hK hP hD hS 0 rfl rfl 6 (by decide) (hz _ wd_270) (fun _ h9 => h9) rfl hin rfl (by decide +kernel) rfl rfl (Nat.le_of_ble_eq_true rfl) dCE_init_64 (fun H locs hP hD hS => ?_)
    have hP : va_P (dC, dI) vwCl [zob a 7 [.int (nI f0), .int (nI f1), .int (nI f2), .int (nI f3), .int (nI f4), .int (nI f5), .int (nI 1), .int (nI f7), .int (nI 0), .int (nI 0)]] H := hP
    have hD : va_D A [zob a 7 [.int (nI f0), .int (nI f1), .int (nI f2), .int (nI f3), .int (nI f4), .int (nI f5), .int (nI 1), .int (nI f7), .int (nI 0), .int (nI 0)]] := hD
    subst hQ
    exact zw_vret (D := (dC, dI)) (cl := vwCl) (A := A) 1 hx hb hr hlocks ((if_pos (by omega)).symm) (hP.sub [0] rfl) (hK.sub [] rfl) (hD.sub [0] (by decide) rfl) hS dCE_init_67

set_option maxHeartbeats 4000000 in
set_option maxRecDepth 100000 in
theorem f_AL_add_41 (l : Launch) (dC : Nat → ClassId) (dI : Nat → Nat → Nat) (al : Nat) (ed : Nat) (cE : ClassId) (cap : Nat) (a : Nat → Option Nat) (mo : Int32) (n : Nat) (x : Nat) (f0 : Nat) (f1 : Nat) (f2 : Nat) (f3 : Nat) (f4 : Nat) (f5 : Nat) (f6 : Nat) (f7 : Nat) (f8 : Nat) (f9 : Nat) (T : va_W) (hn : n < cap) (hc : cap < 2147483647) : zw_Mv (S := Unit) l yAL_add_41 wAL_add_41 ({ frames := 0, cells := 0, slots := 0, locals := 0 }) [.ref al, .ref x, .ref ed, .int (nI n)] (dC, dI) vwCl ([zob al 2 [.ref ed, .int (nI n), .int mo], zrf ed cE cap a, zob x 7 [.int (nI f0), .int (nI f1), .int (nI f2), .int (nI f3), .int (nI f4), .int (nI f5), .int (nI f6), .int (nI f7), .int (nI f8), .int (nI f9)]] ++ T) [(cE, .object "java/lang/Object")] (fun _ U => va_Nw (.castable "SpannedCells$Cell" "java/lang/Object") U) (fun (_ : Unit) => True) (fun (_ : Unit) => ([zob al 2 [.ref ed, .int (nI (n + 1)), .int mo], zrf ed cE cap (va_up a n (some x)), zob x 7 [.int (nI f0), .int (nI f1), .int (nI f2), .int (nI f3), .int (nI f4), .int (nI f5), .int (nI f6), .int (nI f7), .int (nI f8), .int (nI f9)]] ++ T)) (fun (_ : Unit) => []) 0 0 := by
  refine zw_headv (cc := cAL_add_41) (maxL := 4) (ret := none) (by decide +kernel) rfl (Nat.le_of_ble_eq_true rfl) ?_
  intro p e s m below meth c ls A F hnm hA hP hK hD hS hX hl
  obtain ⟨hx, hb, hml, hr, hlocks, hown, hts⟩ := F
  have hown : s.vm.findClass "java/util/ArrayList" = some m.cls := hown
  have hz : ∀ w9 ∈ zT, w9.before [.ref al, .ref x, .ref ed, .int (nI n)].toArray s = true := fun w9 h => hts w9 (List.mem_cons_of_mem _ h)
  have hl : lv_has ls 4 [(0, .ref al), (1, .ref x), (2, .ref ed), (3, .int (nI n))] := hl
  refine z_q (fun Q hQ => ?_)
  refine lv_iload_n hx hb dAL_add_41_0 rfl (lv_at hl 3 rfl) ?_
  refine lv_aload_n hx hb dAL_add_41_1 rfl (lv_at hl 2 rfl) ?_
  refine va_alen (v := nI cap) hx hb hK hP 1 0 rfl rfl rfl dAL_add_41_2 ?_
  have t1 := nI_toInt (n := n) (by omega)
  have t2 := nI_toInt (n := cap) (by omega)
  refine lv_icmp_ne (tgt := 11) hx hb dAL_add_41_3 rfl (fun _ => ?_) (fun h => by have h := z_eq h; omega)
  refine lv_aload_n hx hb dAL_add_41_11 rfl (lv_at hl 2 rfl) ?_
  refine lv_iload_n hx hb dAL_add_41_12 rfl (lv_at hl 3 rfl) ?_
  refine lv_aload_n hx hb dAL_add_41_13 rfl (lv_at hl 1 rfl) ?_
  refine va_astqO (r := (RCE, TCE, 10)) hx hb hK hP hD hS 1 0 2 7 rfl rfl hX rfl rfl (vp_in_nI (by omega) (by omega)) dAL_add_41_14 (fun H locs hP hD hS => ?_)
  rw [nI_clamp (by omega)] at hP hD
  have hP : va_P (dC, dI) vwCl ([zob al 2 [.ref ed, .int (nI n), .int mo], zrf ed cE cap (va_up a n (some x)), zob x 7 [.int (nI f0), .int (nI f1), .int (nI f2), .int (nI f3), .int (nI f4), .int (nI f5), .int (nI f6), .int (nI f7), .int (nI f8), .int (nI f9)]] ++ T) H := hP
  have hD : va_D A ([zob al 2 [.ref ed, .int (nI n), .int mo], zrf ed cE cap (va_up a n (some x)), zob x 7 [.int (nI f0), .int (nI f1), .int (nI f2), .int (nI f3), .int (nI f4), .int (nI f5), .int (nI f6), .int (nI f7), .int (nI f8), .int (nI f9)]] ++ T) := hD
  refine lv_aload_n hx hb dAL_add_41_15 rfl (lv_at hl 0 rfl) ?_
  refine lv_iload_n hx hb dAL_add_41_16 rfl (lv_at hl 3 rfl) ?_
  refine lv_iconst (v := nI 1) hx hb dAL_add_41_17 (by decide) ?_
  refine lv_iadd hx hb dAL_add_41_18 ?_
  refine lv_topi (fun x3 e4 => ?_)
  have e4 : x3 = nI (n + 1) := e4.trans (nI_add _ _)
  subst e4
  refine va_put (D := (dC, dI)) (ci := 2) (v := .int (nI (n + 1))) (ty := .int) (C := RAL) (T := TAL) (N := 3) hx hb hz in_AL tyAL tokAL nokAL hown hK hP hD hS 0 rfl rfl 1 (by decide) (hz _ wd_74) (fun _ h9 => h9) rfl (by decide +kernel) rfl rfl (Nat.le_of_ble_eq_true rfl) dAL_add_41_19 (fun H locs hP hD hS => ?_)
  have hP : va_P (dC, dI) vwCl ([zob al 2 [.ref ed, .int (nI (n + 1)), .int mo], zrf ed cE cap (va_up a n (some x)), zob x 7 [.int (nI f0), .int (nI f1), .int (nI f2), .int (nI f3), .int (nI f4), .int (nI f5), .int (nI f6), .int (nI f7), .int (nI f8), .int (nI f9)]] ++ T) H := hP
  have hD : va_D A ([zob al 2 [.ref ed, .int (nI (n + 1)), .int mo], zrf ed cE cap (va_up a n (some x)), zob x 7 [.int (nI f0), .int (nI f1), .int (nI f2), .int (nI f3), .int (nI f4), .int (nI f5), .int (nI f6), .int (nI f7), .int (nI f8), .int (nI f9)]] ++ T) := hD
  subst hQ
  exact zw_vret (D := (dC, dI)) (cl := vwCl) (A := A) () hx hb hr hlocks (trivial) (zt_sub hP [0, 1, 2] rfl) (hK.sub [] rfl) (zt_subD hD [0, 1, 2] (by decide) rfl) hS dAL_add_41_22

set_option maxHeartbeats 4000000 in
set_option maxRecDepth 100000 in
theorem f_AL_add (l : Launch) (dC : Nat → ClassId) (dI : Nat → Nat → Nat) (al : Nat) (ed : Nat) (cE : ClassId) (cap : Nat) (a : Nat → Option Nat) (mo : Int32) (n : Nat) (x : Nat) (f0 : Nat) (f1 : Nat) (f2 : Nat) (f3 : Nat) (f4 : Nat) (f5 : Nat) (f6 : Nat) (f7 : Nat) (f8 : Nat) (f9 : Nat) (T : va_W) (hn : n < cap) (hc : cap < 2147483647) : zw_Mi (S := Unit) l yAL_add wAL_add ({ frames := 1, cells := 0, slots := 0, locals := 23 }) [.ref al, .ref x] (dC, dI) vwCl ([zob al 2 [.ref ed, .int (nI n), .int mo], zrf ed cE cap a, zob x 7 [.int (nI f0), .int (nI f1), .int (nI f2), .int (nI f3), .int (nI f4), .int (nI f5), .int (nI f6), .int (nI f7), .int (nI f8), .int (nI f9)]] ++ T) [(cE, .object "java/lang/Object")] (fun _ U => va_Nw (.castable "SpannedCells$Cell" "java/lang/Object") U) (fun r (_ : Unit) => r = 1) (fun (_ : Unit) => ([zob al 2 [.ref ed, .int (nI (n + 1)), .int (mo + nI 1)], zrf ed cE cap (va_up a n (some x)), zob x 7 [.int (nI f0), .int (nI f1), .int (nI f2), .int (nI f3), .int (nI f4), .int (nI f5), .int (nI f6), .int (nI f7), .int (nI f8), .int (nI f9)]] ++ T)) (fun (_ : Unit) => []) 0 0 := by
  refine zw_headi (cc := cAL_add) (maxL := 2) (ret := (some .boolean)) (by decide +kernel) rfl (Nat.le_of_ble_eq_true rfl) ?_
  intro p e s m below meth c ls A F hA hP hK hD hS hX hl
  obtain ⟨hx, hb, hml, hr, hlocks, hown, hts⟩ := F
  have hown : s.vm.findClass "java/util/ArrayList" = some m.cls := hown
  have hz : ∀ w9 ∈ zT, w9.before [.ref al, .ref x].toArray s = true := fun w9 h => hts w9 (List.mem_cons_of_mem _ h)
  have hl : lv_has ls 2 [(0, .ref al), (1, .ref x)] := hl
  refine z_q (fun Q hQ => ?_)
  refine lv_aload_n hx hb dAL_add_0 rfl (lv_at hl 0 rfl) ?_
  refine lv_dup hx hb dAL_add_1 rfl ?_
  refine va_get (D := (dC, dI)) (ci := 2) (v := .int mo) (C := RAL) (T := TAL) (N := 3) hx hb hz in_AL hown hK hP 0 rfl rfl 2 (by decide) (hz _ wd_76) (fun x9 h9 => u_same (hz _ wd_77) x9 h9) rfl dAL_add_2 ?_
  refine lv_iconst (v := nI 1) hx hb dAL_add_5 (by decide) ?_
  refine lv_iadd hx hb dAL_add_6 ?_
  refine va_put (D := (dC, dI)) (ci := 2) (v := .int (mo + (nI 1))) (ty := .int) (C := RAL) (T := TAL) (N := 3) hx hb hz in_AL tyAL tokAL nokAL hown hK hP hD hS 0 rfl rfl 2 (by decide) (hz _ wd_76) (fun x9 h9 => u_same (hz _ wd_77) x9 h9) rfl (by decide +kernel) rfl rfl (Nat.le_of_ble_eq_true rfl) dAL_add_7 (fun H locs hP hD hS => ?_)
  have hP : va_P (dC, dI) vwCl ([zob al 2 [.ref ed, .int (nI n), .int (mo + (nI 1))], zrf ed cE cap a, zob x 7 [.int (nI f0), .int (nI f1), .int (nI f2), .int (nI f3), .int (nI f4), .int (nI f5), .int (nI f6), .int (nI f7), .int (nI f8), .int (nI f9)]] ++ T) H := hP
  have hD : va_D A ([zob al 2 [.ref ed, .int (nI n), .int (mo + (nI 1))], zrf ed cE cap a, zob x 7 [.int (nI f0), .int (nI f1), .int (nI f2), .int (nI f3), .int (nI f4), .int (nI f5), .int (nI f6), .int (nI f7), .int (nI f8), .int (nI f9)]] ++ T) := hD
  refine lv_aload_n hx hb dAL_add_10 rfl (lv_at hl 0 rfl) ?_
  refine lv_aload_n hx hb dAL_add_11 rfl (lv_at hl 1 rfl) ?_
  refine lv_aload_n hx hb dAL_add_12 rfl (lv_at hl 0 rfl) ?_
  refine va_get (D := (dC, dI)) (ci := 2) (v := .ref ed) (C := RAL) (T := TAL) (N := 3) hx hb hz in_AL hown hK hP 0 rfl rfl 0 (by decide) (hz _ wd_73) (fun _ h9 => h9) rfl dAL_add_13 ?_
  refine lv_aload_n hx hb dAL_add_16 rfl (lv_at hl 0 rfl) ?_
  refine va_get (D := (dC, dI)) (ci := 2) (v := .int (nI n)) (C := RAL) (T := TAL) (N := 3) hx hb hz in_AL hown hK hP 0 rfl rfl 1 (by decide) (hz _ wd_74) (fun _ h9 => h9) rfl dAL_add_17 ?_
  refine zw_callTv (wr := []) hK hP hD hS hA [0, 1, 2] [] rfl rfl (by decide) (by decide) (va_runV (As := [.ref x, .ref ed, .int (nI n)]) (rest := []) ⟨hx, hb, hml, hown, hz⟩ ((f_AL_add_41 l dC dI al ed cE cap a (mo + (nI 1)) n x f0 f1 f2 f3 f4 f5 f6 f7 f8 f9 T (by omega) (by omega)) H.size) (cwV 3 hz (z_gV wd_302 wd_304 wd_2 wd_33 wd_305) rfl rfl rfl (by decide +kernel) ⟨Nat.le_of_ble_eq_true rfl, Nat.le_of_ble_eq_true rfl⟩) (zw_preVT hK hP hD (va_recv (q0 := 0) hK hP (q := (RAL, TAL, 3)) rfl rfl) [0, 1, 2] (by decide) rfl [0] rfl zCa_blind (zCa_call hX)) rfl rfl hl.1 rfl (lv_room (Nat.le_of_ble_eq_true rfl)) dAL_add_20 ⟨Nat.le_of_ble_eq_true rfl, Nat.le_of_ble_eq_true rfl⟩) (fun u H locs h_r1 hP hD hK hS => ?_)
  have hP : va_P (dC, dI) vwCl ([zob al 2 [.ref ed, .int (nI (n + 1)), .int (mo + (nI 1))], zrf ed cE cap (va_up a n (some x)), zob x 7 [.int (nI f0), .int (nI f1), .int (nI f2), .int (nI f3), .int (nI f4), .int (nI f5), .int (nI f6), .int (nI f7), .int (nI f8), .int (nI f9)]] ++ T) H := zt_sub hP [0, 1, 2] rfl
  have hD : va_D A ([zob al 2 [.ref ed, .int (nI (n + 1)), .int (mo + (nI 1))], zrf ed cE cap (va_up a n (some x)), zob x 7 [.int (nI f0), .int (nI f1), .int (nI f2), .int (nI f3), .int (nI f4), .int (nI f5), .int (nI f6), .int (nI f7), .int (nI f8), .int (nI f9)]] ++ T) := zt_subD hD [0, 1, 2] (by decide) rfl
  have hK : va_K (dC, dI) vwCl [(cE, .object "java/lang/Object")] s := hK
  refine lv_iconst (v := nI 1) hx hb dAL_add_23 (by decide) ?_
  subst hQ
  exact zw_zret (D := (dC, dI)) (cl := vwCl) (A := A) () hx hb hr hlocks (Or.inr rfl) (rfl) (zt_sub hP [0, 1, 2] rfl) (hK.sub [] rfl) (zt_subD hD [0, 1, 2] (by decide) rfl) hS dAL_add_24
