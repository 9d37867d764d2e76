set_option maxHeartbeats 4000000 in
set_option maxRecDepth 100000 in
theorem g_CE_init (l : Launch) (dC : Nat → ClassId) (dI : Nat → Nat → Nat) (T : va_W) (a : Nat) (f0 : Nat) (f1 : Nat) (f2 : Nat) (f7 : Nat) (f3 : Nat) (f4 : Nat) (f5 : Nat) (hh : f7 ≤ 1000) : zw_Mv (S := (Nat)) l yCE_init wCE_init ({ frames := 1, cells := 0, slots := 0, locals := 12 }) [.ref a, .int (nI f0), .int (nI f1), .int (nI f2), .int (nI f7), .int (nI f3), .int (nI f4), .int (nI f5)] (dC, dI) vwCl ([zob a 7 [.int (nI 0), .int (nI 0), .int (nI 0), .int (nI 0), .int (nI 0), .int (nI 0), .int (nI 0), .int (nI 0), .int (nI 0), .int (nI 0)]] ++ T) [] (fun _ _ => True) (fun (gw : Nat) => gw = if f7 = 0 then 1 else 0) (fun (gw : Nat) => ([zob a 7 [.int (nI f0), .int (nI f1), .int (nI f2), .int (nI f3), .int (nI f4), .int (nI f5), .int (nI gw), .int (nI f7), .int (nI 0), .int (nI 0)]] ++ T)) (fun (gw : Nat) => []) 0 0 := by
  refine zw_headv (cc := cCE_init) (maxL := 8) (ret := none) (by decide +kernel) rfl (Nat.le_of_ble_eq_true rfl) ?_
  intro p e s m below meth c ls A F hnm hA hP hK hD hS hX hl
  obtain ⟨hx, hb, hml, hr, hlocks, hown, hts⟩ := F
  have hown : s.vm.findClass "SpannedCells$Cell" = some m.cls := hown
  have hz : ∀ w9 ∈ zT, w9.before [.ref a, .int (nI f0), .int (nI f1), .int (nI f2), .int (nI f7), .int (nI f3), .int (nI f4), .int (nI f5)].toArray s = true := fun w9 h => hts w9 (List.mem_cons_of_mem _ h)
  have hl : lv_has ls 8 [(0, .ref a), (1, .int (nI f0)), (2, .int (nI f1)), (3, .int (nI f2)), (4, .int (nI f7)), (5, .int (nI f3)), (6, .int (nI f4)), (7, .int (nI f5))] := hl
  have hin : meth.name = "<init>" := hnm
  refine z_q (fun Q hQ => ?_)
  refine lv_aload_n hx hb dCE_init_0 rfl (lv_at hl 0 rfl) ?_
  refine W.objInit hx hb hown (hz _ wd_250) (hz _ wd_51) (hz _ wd_52) rfl (by rw [hml]; exact hl.1) rfl dCE_init_1 (Nat.le_of_ble_eq_true rfl) (Nat.le_of_ble_eq_true rfl) ?_
  refine W.eq (g2 := F0 m 4 ls []) rfl ?_
  refine lv_aload_n hx hb dCE_init_4 rfl (lv_at hl 0 rfl) ?_
  refine lv_iconst (v := nI 0) hx hb dCE_init_5 (by decide) ?_
  refine va_put (D := (dC, dI)) (ci := 7) (v := .int (nI 0)) (ty := .int) (C := RCE) (T := TCE) (N := 10) hx hb hz in_CE tyCE tokCE nokCE hown hK hP hD hS 0 rfl rfl 8 (by decide) (hz _ wd_275) (fun _ h9 => h9) rfl (by decide +kernel) rfl rfl (Nat.le_of_ble_eq_true rfl) dCE_init_6 (fun H locs hP hD hS => ?_)
  have hP : va_P (dC, dI) vwCl ([zob a 7 [.int (nI 0), .int (nI 0), .int (nI 0), .int (nI 0), .int (nI 0), .int (nI 0), .int (nI 0), .int (nI 0), .int (nI 0), .int (nI 0)]] ++ T) H := hP
  have hD : va_D A ([zob a 7 [.int (nI 0), .int (nI 0), .int (nI 0), .int (nI 0), .int (nI 0), .int (nI 0), .int (nI 0), .int (nI 0), .int (nI 0), .int (nI 0)]] ++ T) := hD
  refine lv_aload_n hx hb dCE_init_9 rfl (lv_at hl 0 rfl) ?_
  refine lv_iconst (v := nI 0) hx hb dCE_init_10 (by decide) ?_
  refine va_put (D := (dC, dI)) (ci := 7) (v := .int (nI 0)) (ty := .int) (C := RCE) (T := TCE) (N := 10) hx hb hz in_CE tyCE tokCE nokCE hown hK hP hD hS 0 rfl rfl 9 (by decide) (hz _ wd_276) (fun _ h9 => h9) rfl (by decide +kernel) rfl rfl (Nat.le_of_ble_eq_true rfl) dCE_init_11 (fun H locs hP hD hS => ?_)
  have hP : va_P (dC, dI) vwCl ([zob a 7 [.int (nI 0), .int (nI 0), .int (nI 0), .int (nI 0), .int (nI 0), .int (nI 0), .int (nI 0), .int (nI 0), .int (nI 0), .int (nI 0)]] ++ T) H := hP
  have hD : va_D A ([zob a 7 [.int (nI 0), .int (nI 0), .int (nI 0), .int (nI 0), .int (nI 0), .int (nI 0), .int (nI 0), .int (nI 0), .int (nI 0), .int (nI 0)]] ++ T) := hD
  refine lv_aload_n hx hb dCE_init_14 rfl (lv_at hl 0 rfl) ?_
  refine lv_iload_n hx hb dCE_init_15 rfl (lv_at hl 1 rfl) ?_
  refine va_putF (D := (dC, dI)) (ci := 7) (v := .int (nI f0)) (ty := .int) (C := RCE) (T := TCE) (N := 10) hx hb hz in_CE tyCE tokCE nokCE hown hK hP hD hS 0 rfl rfl 0 (by decide) (hz _ wd_251) (fun _ h9 => h9) rfl hin rfl (by decide +kernel) rfl rfl (Nat.le_of_ble_eq_true rfl) dCE_init_16 (fun H locs hP hD hS => ?_)
  have hP : va_P (dC, dI) vwCl ([zob a 7 [.int (nI f0), .int (nI 0), .int (nI 0), .int (nI 0), .int (nI 0), .int (nI 0), .int (nI 0), .int (nI 0), .int (nI 0), .int (nI 0)]] ++ T) H := hP
  have hD : va_D A ([zob a 7 [.int (nI f0), .int (nI 0), .int (nI 0), .int (nI 0), .int (nI 0), .int (nI 0), .int (nI 0), .int (nI 0), .int (nI 0), .int (nI 0)]] ++ T) := hD
  refine lv_aload_n hx hb dCE_init_19 rfl (lv_at hl 0 rfl) ?_
  refine lv_iload_n hx hb dCE_init_20 rfl (lv_at hl 2 rfl) ?_
  refine va_putF (D := (dC, dI)) (ci := 7) (v := .int (nI f1)) (ty := .int) (C := RCE) (T := TCE) (N := 10) hx hb hz in_CE tyCE tokCE nokCE hown hK hP hD hS 0 rfl rfl 1 (by decide) (hz _ wd_255) (fun _ h9 => h9) rfl hin rfl (by decide +kernel) rfl rfl (Nat.le_of_ble_eq_true rfl) dCE_init_21 (fun H locs hP hD hS => ?_)
  have hP : va_P (dC, dI) vwCl ([zob a 7 [.int (nI f0), .int (nI f1), .int (nI 0), .int (nI 0), .int (nI 0), .int (nI 0), .int (nI 0), .int (nI 0), .int (nI 0), .int (nI 0)]] ++ T) H := hP
  have hD : va_D A ([zob a 7 [.int (nI f0), .int (nI f1), .int (nI 0), .int (nI 0), .int (nI 0), .int (nI 0), .int (nI 0), .int (nI 0), .int (nI 0), .int (nI 0)]] ++ T) := hD
  refine lv_aload_n hx hb dCE_init_24 rfl (lv_at hl 0 rfl) ?_
  refine lv_iload_n hx hb dCE_init_25 rfl (lv_at hl 3 rfl) ?_
  refine va_putF (D := (dC, dI)) (ci := 7) (v := .int (nI f2)) (ty := .int) (C := RCE) (T := TCE) (N := 10) hx hb hz in_CE tyCE tokCE nokCE hown hK hP hD hS 0 rfl rfl 2 (by decide) (hz _ wd_260) (fun _ h9 => h9) rfl hin rfl (by decide +kernel) rfl rfl (Nat.le_of_ble_eq_true rfl) dCE_init_26 (fun H locs hP hD hS => ?_)
  have hP : va_P (dC, dI) vwCl ([zob a 7 [.int (nI f0), .int (nI f1), .int (nI f2), .int (nI 0), .int (nI 0), .int (nI 0), .int (nI 0), .int (nI 0), .int (nI 0), .int (nI 0)]] ++ T) H := hP
  have hD : va_D A ([zob a 7 [.int (nI f0), .int (nI f1), .int (nI f2), .int (nI 0), .int (nI 0), .int (nI 0), .int (nI 0), .int (nI 0), .int (nI 0), .int (nI 0)]] ++ T) := hD
  refine lv_aload_n hx hb dCE_init_29 rfl (lv_at hl 0 rfl) ?_
  refine lv_iload hx hb dCE_init_30 (lv_at hl 4 rfl) ?_
  refine va_put (D := (dC, dI)) (ci := 7) (v := .int (nI f7)) (ty := .int) (C := RCE) (T := TCE) (N := 10) hx hb hz in_CE tyCE tokCE nokCE hown hK hP hD hS 0 rfl rfl 7 (by decide) (hz _ wd_271) (fun _ h9 => h9) rfl (by decide +kernel) rfl rfl (Nat.le_of_ble_eq_true rfl) dCE_init_32 (fun H locs hP hD hS => ?_)
  have hP : va_P (dC, dI) vwCl ([zob a 7 [.int (nI f0), .int (nI f1), .int (nI f2), .int (nI 0), .int (nI 0), .int (nI 0), .int (nI 0), .int (nI f7), .int (nI 0), .int (nI 0)]] ++ T) H := hP
  have hD : va_D A ([zob a 7 [.int (nI f0), .int (nI f1), .int (nI f2), .int (nI 0), .int (nI 0), .int (nI 0), .int (nI 0), .int (nI f7), .int (nI 0), .int (nI 0)]] ++ T) := hD
  refine lv_aload_n hx hb dCE_init_35 rfl (lv_at hl 0 rfl) ?_
  refine lv_iload hx hb dCE_init_36 (lv_at hl 5 rfl) ?_
  refine va_putF (D := (dC, dI)) (ci := 7) (v := .int (nI f3)) (ty := .int) (C := RCE) (T := TCE) (N := 10) hx hb hz in_CE tyCE tokCE nokCE hown hK hP hD hS 0 rfl rfl 3 (by decide) (hz _ wd_264) (fun _ h9 => h9) rfl hin rfl (by decide +kernel) rfl rfl (Nat.le_of_ble_eq_true rfl) dCE_init_38 (fun H locs hP hD hS => ?_)
  have hP : va_P (dC, dI) vwCl ([zob a 7 [.int (nI f0), .int (nI f1), .int (nI f2), .int (nI f3), .int (nI 0), .int (nI 0), .int (nI 0), .int (nI f7), .int (nI 0), .int (nI 0)]] ++ T) H := hP
  have hD : va_D A ([zob a 7 [.int (nI f0), .int (nI f1), .int (nI f2), .int (nI f3), .int (nI 0), .int (nI 0), .int (nI 0), .int (nI f7), .int (nI 0), .int (nI 0)]] ++ T) := hD
  refine lv_aload_n hx hb dCE_init_41 rfl (lv_at hl 0 rfl) ?_
  refine lv_iload hx hb dCE_init_42 (lv_at hl 6 rfl) ?_
  refine va_putF (D := (dC, dI)) (ci := 7) (v := .int (nI f4)) (ty := .int) (C := RCE) (T := TCE) (N := 10) hx hb hz in_CE tyCE tokCE nokCE hown hK hP hD hS 0 rfl rfl 4 (by decide) (hz _ wd_266) (fun _ h9 => h9) rfl hin rfl (by decide +kernel) rfl rfl (Nat.le_of_ble_eq_true rfl) dCE_init_44 (fun H locs hP hD hS => ?_)
  have hP : va_P (dC, dI) vwCl ([zob a 7 [.int (nI f0), .int (nI f1), .int (nI f2), .int (nI f3), .int (nI f4), .int (nI 0), .int (nI 0), .int (nI f7), .int (nI 0), .int (nI 0)]] ++ T) H := hP
  have hD : va_D A ([zob a 7 [.int (nI f0), .int (nI f1), .int (nI f2), .int (nI f3), .int (nI f4), .int (nI 0), .int (nI 0), .int (nI f7), .int (nI 0), .int (nI 0)]] ++ T) := hD
  refine lv_aload_n hx hb dCE_init_47 rfl (lv_at hl 0 rfl) ?_
  refine lv_iload hx hb dCE_init_48 (lv_at hl 7 rfl) ?_
  refine va_putF (D := (dC, dI)) (ci := 7) (v := .int (nI f5)) (ty := .int) (C := RCE) (T := TCE) (N := 10) hx hb hz in_CE tyCE tokCE nokCE hown hK hP hD hS 0 rfl rfl 5 (by decide) (hz _ wd_268) (fun _ h9 => h9) rfl hin rfl (by decide +kernel) rfl rfl (Nat.le_of_ble_eq_true rfl) dCE_init_50 (fun H locs hP hD hS => ?_)
  have hP : va_P (dC, dI) vwCl ([zob a 7 [.int (nI f0), .int (nI f1), .int (nI f2), .int (nI f3), .int (nI f4), .int (nI f5), .int (nI 0), .int (nI f7), .int (nI 0), .int (nI 0)]] ++ T) H := hP
  have hD : va_D A ([zob a 7 [.int (nI f0), .int (nI f1), .int (nI f2), .int (nI f3), .int (nI f4), .int (nI f5), .int (nI 0), .int (nI f7), .int (nI 0), .int (nI 0)]] ++ T) := hD
  refine lv_aload_n hx hb dCE_init_53 rfl (lv_at hl 0 rfl) ?_
  refine lv_iload hx hb dCE_init_54 (lv_at hl 4 rfl) ?_
  have t1 := nI_toInt (n := f7) (by omega)
  have t2 : (0 : Int32).toInt = 0 := by decide
  refine lv_if_ne (tgt := 63) hx hb dCE_init_56 rfl (fun h1 => ?_) (fun h1 => ?_)
  · have h1 := z_ne h1
    refine lv_iconst (v := nI 0) hx hb dCE_init_63 (by decide) ?_
    refine va_putF (D := (dC, dI)) (ci := 7) (v := .int (nI 0)) (ty := .boolean) (C := RCE) (T := TCE) (N := 10) hx hb hz in_CE tyCE tokCE nokCE hown hK hP hD hS 0 rfl rfl 6 (by decide) (hz _ wd_270) (fun _ h9 => h9) rfl hin rfl (by decide +kernel) rfl rfl (Nat.le_of_ble_eq_true rfl) dCE_init_64 (fun H locs hP hD hS => ?_)
    have hP : va_P (dC, dI) vwCl ([zob a 7 [.int (nI f0), .int (nI f1), .int (nI f2), .int (nI f3), .int (nI f4), .int (nI f5), .int (nI 0), .int (nI f7), .int (nI 0), .int (nI 0)]] ++ T) H := hP
    have hD : va_D A ([zob a 7 [.int (nI f0), .int (nI f1), .int (nI f2), .int (nI f3), .int (nI f4), .int (nI f5), .int (nI 0), .int (nI f7), .int (nI 0), .int (nI 0)]] ++ T) := hD
    subst hQ
    exact zw_vret (D := (dC, dI)) (cl := vwCl) (A := A) 0 hx hb hr hlocks ((if_neg (by omega)).symm) (zt_sub hP [0] rfl) (hK.sub [] rfl) (zt_subD hD [0] (by decide) rfl) hS dCE_init_67
  · have h1 := z_eq h1
    refine lv_iconst (v := nI 1) hx hb dCE_init_59 (by decide) ?_
    refine lv_goto (tgt := 64) hx hb dCE_init_60 rfl ?_
    refine va_putF (D := (dC, dI)) (ci := 7) (v := .int (nI 1)) (ty := .boolean) (C := RCE) (T := TCE) (N := 10) hx hb hz in_CE tyCE tokCE nokCE hown hK hP hD hS 0 rfl rfl 6 (by decide) (hz _ wd_270) (fun _ h9 => h9) rfl hin rfl (by decide +kernel) rfl rfl (Nat.le_of_ble_eq_true rfl) dCE_init_64 (fun H locs hP hD hS => ?_)
    have hP : va_P (dC, dI) vwCl ([zob a 7 [.int (nI f0), .int (nI f1), .int (nI f2), .int (nI f3), .int (nI f4), .int (nI f5), .int (nI 1), .int (nI f7), .int (nI 0), .int (nI 0)]] ++ T) H := hP
    have hD : va_D A ([zob a 7 [.int (nI f0), .int (nI f1), .int (nI f2), .int (nI f3), .int (nI f4), .int (nI f5), .int (nI 1), .int (nI f7), .int (nI 0), .int (nI 0)]] ++ T) := hD
    subst hQ
    exact zw_vret (D := (dC, dI)) (cl := vwCl) (A := A) 1 hx hb hr hlocks ((if_pos (by omega)).symm) (zt_sub hP [0] rfl) (hK.sub [] rfl) (zt_subD hD [0] (by decide) rfl) hS dCE_init_67
