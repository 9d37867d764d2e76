set_option maxHeartbeats 8000000 in
set_option maxRecDepth 100000 in
theorem lawE_3 {p : Program} (l : Launch) {e : Env} {s : State} {m : MethodId} {below : List Frame} {meth : Method} {c : Code} {Q : State → Prop} {A : Nat → Prop} {dC : Nat → ClassId} {dI : Nat → Nat → Nat} {b L t mi : Nat} {ty : FieldType} {xs : Nat → Int32} {h0 g al wd hh l0 l1 l2 l3 p0 p1 p2 p3 ln pn h1 b0 b1 b2 b3 b4 b5 b6 b7 b8 b9 b10 b11 b12 b13 b14 b15 b16 b17 : Nat} {kp0 kp1 kp2 kp3 kn kb0 kb1 kb2 kb3 kb4 kb5 kb6 kb7 kb8 kb9 kb10 kb11 kb12 kb13 kb14 kb15 kb16 kb17 : ClassId} (hx : p.tables.exec = Jvm.exec) (hb : c.code = code) (hml : c.maxLocals = 4) (hown : s.vm.findClass "SpannedCellsLaw" = some m.cls) (hz : ∀ w9 ∈ zT, w9.before #[Value.ref b] s = true) (hXs : va_X b L xs s s.heap) (hbl : b < s.heap.size) (hAb : ¬ A b) (hA : ∀ q : Nat, s.heap.size ≤ q → A q) (hN : zN s) (hX : zY t ty mi A s) {i cl sl : Nat} (hL : L ≤ 3072) (hi6 : i + 6 ≤ L) (hc9 : cl + 2 ≤ 600000) (hs9 : sl + 68 ≤ 7302250) (backE : zAtE p l e s m below meth c Q A dC dI b h0 g al wd hh l0 l1 l2 l3 p0 p1 p2 p3 ln pn h1 b0 b1 b2 b3 b4 b5 b6 b7 b8 b9 b10 b11 b12 b13 b14 b15 b16 b17 kp0 kp1 kp2 kp3 kn kb0 kb1 kb2 kb3 kb4 kb5 kb6 kb7 kb8 kb9 kb10 kb11 kb12 kb13 kb14 kb15 kb16 kb17 t i (cl + 2) (sl + 68) 615) : zAtE p l e s m below meth c Q A dC dI b h0 g al wd hh l0 l1 l2 l3 p0 p1 p2 p3 ln pn h1 b0 b1 b2 b3 b4 b5 b6 b7 b8 b9 b10 b11 b12 b13 b14 b15 b16 b17 kp0 kp1 kp2 kp3 kn kb0 kb1 kb2 kb3 kb4 kb5 kb6 kb7 kb8 kb9 kb10 kb11 kb12 kb13 kb14 kb15 kb16 kb17 t i cl sl 205 := by
  intro mo gr gs bg re sp gp fx mm rg rn ro sq gq fq g0 g1 g2 g3 gn v0 v1 v2 v3 v4 v5 H locs ls hI hcp hl hP hD hK hS
  have hnum := zI_num hI
  have hP : va_P (dC, dI) vwCl ([zob h0 0 [.ref g, .ref wd, .ref hh, .int (nI sp), .int (nI gp), .int (nI fx)], zob g 1 [.ref al, .int (nI gr), .int (nI gs), .int (nI bg), .int (nI re), .int (nI 0)], zob al 2 [.ref t, .int (nI 0), .int mo], zob wd 3 [.ref l0, .ref l1, .ref l2, .ref l3], zob l0 4 [.ref p0], zob l1 4 [.ref p1], zob l2 4 [.ref p2], zob l3 4 [.ref p3], zar p0 kp0 12 g0, zar p1 kp1 12 g1, zar p2 kp2 12 g2, zar p3 kp3 12 g3, zob hh 5 [.ref ln], zob ln 4 [.ref pn], zar pn kn 12 gn, zob h1 6 [.int (nI gr), .ref b0, .ref b1, .int (nI 0), .ref b2, .ref b3, .ref b4, .ref b5, .ref b6, .ref b7, .ref b8, .ref b9, .ref b10, .ref b11, .int (nI rg - nI 1), .int (nI rn), .int (nI ro), .int (nI sq), .int (nI gq), .int (nI fq), .ref b12, .ref b13, .ref b14, .ref b15, .ref b16, .ref b17], zar b0 kb0 8 (fun j => nI (mm 0 j)), zar b1 kb1 8 (fun j => nI (mm 1 j)), zar b2 kb2 40 (fun j => nI (mm 2 j)), zar b3 kb3 40 (fun j => nI (mm 3 j)), zar b4 kb4 40 (fun j => nI (mm 4 j)), zar b5 kb5 40 (fun j => nI (mm 5 j)), zar b6 kb6 40 (fun j => nI (mm 6 j)), zar b7 kb7 40 (fun j => nI (mm 7 j)), zar b8 kb8 40 (fun j => nI (mm 8 j)), zar b9 kb9 40 (fun j => nI (mm 9 j)), zar b10 kb10 40 (fun j => nI (mm 10 j)), zar b11 kb11 40 (fun j => nI (mm 11 j)), zar b12 kb12 12 v0, zar b13 kb13 12 v1, zar b14 kb14 12 v2, zar b15 kb15 12 v3, zar b16 kb16 12 v4, zar b17 kb17 12 v5] ++ []) H := hP
  have hD : va_D A ([zob h0 0 [.ref g, .ref wd, .ref hh, .int (nI sp), .int (nI gp), .int (nI fx)], zob g 1 [.ref al, .int (nI gr), .int (nI gs), .int (nI bg), .int (nI re), .int (nI 0)], zob al 2 [.ref t, .int (nI 0), .int mo], zob wd 3 [.ref l0, .ref l1, .ref l2, .ref l3], zob l0 4 [.ref p0], zob l1 4 [.ref p1], zob l2 4 [.ref p2], zob l3 4 [.ref p3], zar p0 kp0 12 g0, zar p1 kp1 12 g1, zar p2 kp2 12 g2, zar p3 kp3 12 g3, zob hh 5 [.ref ln], zob ln 4 [.ref pn], zar pn kn 12 gn, zob h1 6 [.int (nI gr), .ref b0, .ref b1, .int (nI 0), .ref b2, .ref b3, .ref b4, .ref b5, .ref b6, .ref b7, .ref b8, .ref b9, .ref b10, .ref b11, .int (nI rg - nI 1), .int (nI rn), .int (nI ro), .int (nI sq), .int (nI gq), .int (nI fq), .ref b12, .ref b13, .ref b14, .ref b15, .ref b16, .ref b17], zar b0 kb0 8 (fun j => nI (mm 0 j)), zar b1 kb1 8 (fun j => nI (mm 1 j)), zar b2 kb2 40 (fun j => nI (mm 2 j)), zar b3 kb3 40 (fun j => nI (mm 3 j)), zar b4 kb4 40 (fun j => nI (mm 4 j)), zar b5 kb5 40 (fun j => nI (mm 5 j)), zar b6 kb6 40 (fun j => nI (mm 6 j)), zar b7 kb7 40 (fun j => nI (mm 7 j)), zar b8 kb8 40 (fun j => nI (mm 8 j)), zar b9 kb9 40 (fun j => nI (mm 9 j)), zar b10 kb10 40 (fun j => nI (mm 10 j)), zar b11 kb11 40 (fun j => nI (mm 11 j)), zar b12 kb12 12 v0, zar b13 kb13 12 v1, zar b14 kb14 12 v2, zar b15 kb15 12 v3, zar b16 kb16 12 v4, zar b17 kb17 12 v5] ++ []) := hD
  have hK : va_K (dC, dI) vwCl [(kp0, .int), (kp1, .int), (kp2, .int), (kp3, .int), (kn, .int), (kb0, .int), (kb1, .int), (kb2, .int), (kb3, .int), (kb4, .int), (kb5, .int), (kb6, .int), (kb7, .int), (kb8, .int), (kb9, .int), (kb10, .int), (kb11, .int), (kb12, .int), (kb13, .int), (kb14, .int), (kb15, .int), (kb16, .boolean), (kb17, .int)] s := hK
  have hl : lv_has ls 4 [(3, .int (nI i)), (2, .ref h1), (1, .ref h0), (0, .ref b)] := hl
  refine lv_aload_n hx hb dLW_law_205 rfl (lv_at hl 2 rfl) ?_
  refine lv_aload_n hx hb dLW_law_206 rfl (lv_at hl 3 rfl) ?_
  refine lv_iload_n hx hb dLW_law_207 rfl (lv_at hl 0 rfl) ?_
  refine lv_iconst (v := nI 1) hx hb dLW_law_208 (by decide) ?_
  refine lv_iadd hx hb dLW_law_209 ?_
  refine lv_topi (fun x1 e2 => ?_)
  have e2 : x1 = nI (i + 1) := e2.trans (nI_add _ _)
  subst e2
  refine va_sld hx hb hXs hbl hAb hS (vp_in_nI (by omega) (by omega)) dLW_law_210 ?_
  refine lv_topi (fun x3 e4 => ?_)
  have e4 : x3 = xs (i + 1) := e4.trans (by rw [nI_clamp (by omega)])
  subst e4
  refine lv_aload_n hx hb dLW_law_211 rfl (lv_at hl 3 rfl) ?_
  refine lv_iload_n hx hb dLW_law_212 rfl (lv_at hl 0 rfl) ?_
  refine lv_iconst (v := nI 2) hx hb dLW_law_213 (by decide) ?_
  refine lv_iadd hx hb dLW_law_214 ?_
  refine lv_topi (fun x5 e6 => ?_)
  have e6 : x5 = nI (i + 2) := e6.trans (nI_add _ _)
  subst e6
  refine va_sld hx hb hXs hbl hAb hS (vp_in_nI (by omega) (by omega)) dLW_law_215 ?_
  refine lv_topi (fun x7 e8 => ?_)
  have e8 : x7 = xs (i + 2) := e8.trans (by rw [nI_clamp (by omega)])
  subst e8
  refine lv_aload_n hx hb dLW_law_216 rfl (lv_at hl 3 rfl) ?_
  refine lv_iload_n hx hb dLW_law_217 rfl (lv_at hl 0 rfl) ?_
  refine lv_iconst (v := nI 3) hx hb dLW_law_218 (by decide) ?_
  refine lv_iadd hx hb dLW_law_219 ?_
  refine lv_topi (fun x9 e10 => ?_)
  have e10 : x9 = nI (i + 3) := e10.trans (nI_add _ _)
  subst e10
  refine va_sld hx hb hXs hbl hAb hS (vp_in_nI (by omega) (by omega)) dLW_law_220 ?_
  refine lv_topi (fun x11 e12 => ?_)
  have e12 : x11 = xs (i + 3) := e12.trans (by rw [nI_clamp (by omega)])
  subst e12
  refine vp_callSi (W.runV (As := [.int (xs (i + 1)), .int (xs (i + 2)), .int (xs (i + 3))]) (rest := []) ⟨hx, hb, hml, hown, hz⟩ (e_SC_border l dC dI h0 wd hh sp gp fx g al gr gs bg re t mo (xs (i + 1)) (xs (i + 2)) (xs (i + 3)) (by omega)) (cwV 3 hz (z_gV wd_351 wd_352 wd_353 wd_29 wd_354) rfl rfl rfl (by decide +kernel) ⟨Nat.le_of_ble_eq_true rfl, Nat.le_of_ble_eq_true rfl⟩) (zr_preV hK (hP.sub [0, 1, 2] rfl) (va_recv (q0 := 0) hK hP (q := (RSC, TSC, 6)) rfl rfl) [] rfl z_true (fun _ _ _ => trivial)) rfl rfl hl.1 rfl (lv_room (Nat.le_of_ble_eq_true rfl)) dLW_law_221 ⟨(by show _ ≤ 600000; omega), (by show _ ≤ 7302250; omega)⟩) (fun r1 h_r1 => ?_)
  have h_r1 : r1 = 0 := h_r1
  subst h_r1
  refine lv_pop hx hb dLW_law_224 rfl ?_
  refine lv_aload_n hx hb dLW_law_225 rfl (lv_at hl 1 rfl) ?_
  refine lv_aload_n hx hb dLW_law_226 rfl (lv_at hl 3 rfl) ?_
  refine lv_iload_n hx hb dLW_law_227 rfl (lv_at hl 0 rfl) ?_
  refine lv_iconst (v := nI 1) hx hb dLW_law_228 (by decide) ?_
  refine lv_iadd hx hb dLW_law_229 ?_
  refine lv_topi (fun x13 e14 => ?_)
  have e14 : x13 = nI (i + 1) := e14.trans (nI_add _ _)
  subst e14
  refine va_sld hx hb hXs hbl hAb hS (vp_in_nI (by omega) (by omega)) dLW_law_230 ?_
  refine lv_topi (fun x15 e16 => ?_)
  have e16 : x15 = xs (i + 1) := e16.trans (by rw [nI_clamp (by omega)])
  subst e16
  refine lv_aload_n hx hb dLW_law_231 rfl (lv_at hl 3 rfl) ?_
  refine lv_iload_n hx hb dLW_law_232 rfl (lv_at hl 0 rfl) ?_
  refine lv_iconst (v := nI 2) hx hb dLW_law_233 (by decide) ?_
  refine lv_iadd hx hb dLW_law_234 ?_
  refine lv_topi (fun x17 e18 => ?_)
  have e18 : x17 = nI (i + 2) := e18.trans (nI_add _ _)
  subst e18
  refine va_sld hx hb hXs hbl hAb hS (vp_in_nI (by omega) (by omega)) dLW_law_235 ?_
  refine lv_topi (fun x19 e20 => ?_)
  have e20 : x19 = xs (i + 2) := e20.trans (by rw [nI_clamp (by omega)])
  subst e20
  refine lv_aload_n hx hb dLW_law_236 rfl (lv_at hl 3 rfl) ?_
  refine lv_iload_n hx hb dLW_law_237 rfl (lv_at hl 0 rfl) ?_
  refine lv_iconst (v := nI 3) hx hb dLW_law_238 (by decide) ?_
  refine lv_iadd hx hb dLW_law_239 ?_
  refine lv_topi (fun x21 e22 => ?_)
  have e22 : x21 = nI (i + 3) := e22.trans (nI_add _ _)
  subst e22
  refine va_sld hx hb hXs hbl hAb hS (vp_in_nI (by omega) (by omega)) dLW_law_240 ?_
  refine lv_topi (fun x23 e24 => ?_)
  have e24 : x23 = xs (i + 3) := e24.trans (by rw [nI_clamp (by omega)])
  subst e24
  refine zw_callNi (wr := [zob h0 0 [.ref g, .ref wd, .ref hh, .int (nI sp), .int (nI gp), .int (nI fx)], zob g 1 [.ref al, .int (nI gr), .int (nI gs), .int (nI bg), .int (nI re), .int (nI 0)], zob al 2 [.ref t, .int (nI 0), .int mo], zob wd 3 [.ref l0, .ref l1, .ref l2, .ref l3], zob l0 4 [.ref p0], zob l1 4 [.ref p1], zob l2 4 [.ref p2], zob l3 4 [.ref p3], zar p0 kp0 12 g0, zar p1 kp1 12 g1, zar p2 kp2 12 g2, zar p3 kp3 12 g3, zob hh 5 [.ref ln], zob ln 4 [.ref pn], zar pn kn 12 gn, zar b12 kb12 12 v0, zar b13 kb13 12 v1, zar b14 kb14 12 v2, zar b15 kb15 12 v3, zar b16 kb16 12 v4, zar b17 kb17 12 v5]) hK hP hD hS hA [15, 16, 17, 18, 19, 20, 21, 22, 23, 24, 25, 26, 27] [0, 1, 2, 3, 4, 5, 6, 7, 8, 9, 10, 11, 12, 13, 14, 28, 29, 30, 31, 32, 33] rfl rfl (by decide) (by decide) (va_runV (As := [.int (xs (i + 1)), .int (xs (i + 2)), .int (xs (i + 3))]) (rest := []) ⟨hx, hb, hml, hown, hz⟩ ((f_MD_border l dC dI h1 b0 b1 b2 b3 b4 b5 b6 b7 b8 b9 b10 b11 b12 b13 b14 b15 b16 b17 kb0 kb1 kb2 kb3 kb4 kb5 kb6 kb7 kb8 kb9 kb10 kb11 gr 0 _ rn ro sq gq fq _ (xs (i + 1)) (xs (i + 2)) (xs (i + 3)) (hI.2.2.2.1) (by omega) (by omega) (zI_mG hI) (zI_mE hI)) H.size) (cwV 3 hz (z_gV wd_684 wd_685 wd_686 wd_37 wd_687) rfl rfl rfl (by decide +kernel) ⟨Nat.le_of_ble_eq_true rfl, Nat.le_of_ble_eq_true rfl⟩) (zw_preV (q0 := 15) (q := (RMD, TMD, 26)) hK hP hD rfl rfl [15, 16, 17, 18, 19, 20, 21, 22, 23, 24, 25, 26, 27] (by decide) rfl [5, 6, 7, 8, 9, 10, 11, 12, 13, 14, 15, 16] rfl z_true (fun _ _ _ => trivial)) rfl rfl hl.1 rfl (lv_room (Nat.le_of_ble_eq_true rfl)) dLW_law_241 ⟨(by show _ ≤ 600000; omega), (by show _ ≤ 7302250; omega)⟩) (fun r2 u H locs h_r2 hP hD hK hS => ?_)
  obtain ⟨m2, rfl⟩ : ∃ z, z = u := ⟨_, rfl⟩
  have hP : va_P (dC, dI) vwCl ([zob h0 0 [.ref g, .ref wd, .ref hh, .int (nI sp), .int (nI gp), .int (nI fx)], zob g 1 [.ref al, .int (nI gr), .int (nI gs), .int (nI bg), .int (nI re), .int (nI 0)], zob al 2 [.ref t, .int (nI 0), .int mo], zob wd 3 [.ref l0, .ref l1, .ref l2, .ref l3], zob l0 4 [.ref p0], zob l1 4 [.ref p1], zob l2 4 [.ref p2], zob l3 4 [.ref p3], zar p0 kp0 12 g0, zar p1 kp1 12 g1, zar p2 kp2 12 g2, zar p3 kp3 12 g3, zob hh 5 [.ref ln], zob ln 4 [.ref pn], zar pn kn 12 gn, zar b12 kb12 12 v0, zar b13 kb13 12 v1, zar b14 kb14 12 v2, zar b15 kb15 12 v3, zar b16 kb16 12 v4, zar b17 kb17 12 v5, zob h1 6 [.int (nI gr), .ref b0, .ref b1, .int (nI 0), .ref b2, .ref b3, .ref b4, .ref b5, .ref b6, .ref b7, .ref b8, .ref b9, .ref b10, .ref b11, .int (nI rg - nI 1), .int (nI rn), .int (nI ro), .int (nI sq), .int (nI gq), .int (nI fq), .ref b12, .ref b13, .ref b14, .ref b15, .ref b16, .ref b17], zar b0 kb0 8 (fun j => nI (m2 0 j)), zar b1 kb1 8 (fun j => nI (m2 1 j)), zar b2 kb2 40 (fun j => nI (m2 2 j)), zar b3 kb3 40 (fun j => nI (m2 3 j)), zar b4 kb4 40 (fun j => nI (m2 4 j)), zar b5 kb5 40 (fun j => nI (m2 5 j)), zar b6 kb6 40 (fun j => nI (m2 6 j)), zar b7 kb7 40 (fun j => nI (m2 7 j)), zar b8 kb8 40 (fun j => nI (m2 8 j)), zar b9 kb9 40 (fun j => nI (m2 9 j)), zar b10 kb10 40 (fun j => nI (m2 10 j)), zar b11 kb11 40 (fun j => nI (m2 11 j))] ++ []) H := hP
  have hD : va_D A ([zob h0 0 [.ref g, .ref wd, .ref hh, .int (nI sp), .int (nI gp), .int (nI fx)], zob g 1 [.ref al, .int (nI gr), .int (nI gs), .int (nI bg), .int (nI re), .int (nI 0)], zob al 2 [.ref t, .int (nI 0), .int mo], zob wd 3 [.ref l0, .ref l1, .ref l2, .ref l3], zob l0 4 [.ref p0], zob l1 4 [.ref p1], zob l2 4 [.ref p2], zob l3 4 [.ref p3], zar p0 kp0 12 g0, zar p1 kp1 12 g1, zar p2 kp2 12 g2, zar p3 kp3 12 g3, zob hh 5 [.ref ln], zob ln 4 [.ref pn], zar pn kn 12 gn, zar b12 kb12 12 v0, zar b13 kb13 12 v1, zar b14 kb14 12 v2, zar b15 kb15 12 v3, zar b16 kb16 12 v4, zar b17 kb17 12 v5, zob h1 6 [.int (nI gr), .ref b0, .ref b1, .int (nI 0), .ref b2, .ref b3, .ref b4, .ref b5, .ref b6, .ref b7, .ref b8, .ref b9, .ref b10, .ref b11, .int (nI rg - nI 1), .int (nI rn), .int (nI ro), .int (nI sq), .int (nI gq), .int (nI fq), .ref b12, .ref b13, .ref b14, .ref b15, .ref b16, .ref b17], zar b0 kb0 8 (fun j => nI (m2 0 j)), zar b1 kb1 8 (fun j => nI (m2 1 j)), zar b2 kb2 40 (fun j => nI (m2 2 j)), zar b3 kb3 40 (fun j => nI (m2 3 j)), zar b4 kb4 40 (fun j => nI (m2 4 j)), zar b5 kb5 40 (fun j => nI (m2 5 j)), zar b6 kb6 40 (fun j => nI (m2 6 j)), zar b7 kb7 40 (fun j => nI (m2 7 j)), zar b8 kb8 40 (fun j => nI (m2 8 j)), zar b9 kb9 40 (fun j => nI (m2 9 j)), zar b10 kb10 40 (fun j => nI (m2 10 j)), zar b11 kb11 40 (fun j => nI (m2 11 j))] ++ []) := hD
  have hK : va_K (dC, dI) vwCl [(kp0, .int), (kp1, .int), (kp2, .int), (kp3, .int), (kn, .int), (kb0, .int), (kb1, .int), (kb2, .int), (kb3, .int), (kb4, .int), (kb5, .int), (kb6, .int), (kb7, .int), (kb8, .int), (kb9, .int), (kb10, .int), (kb11, .int), (kb12, .int), (kb13, .int), (kb14, .int), (kb15, .int), (kb16, .boolean), (kb17, .int)] s := hK
  have h_r2 : (¬ ((0 ≤ (xs (i + 1)).toInt ∧ (xs (i + 1)).toInt < 0) ∧ (0 ≤ (xs (i + 2)).toInt ∧ (xs (i + 2)).toInt ≤ 9) ∧ (0 ≤ (xs (i + 3)).toInt ∧ (xs (i + 3)).toInt ≤ 4)) ∧ r2 = 0 ∧ m2 = mm) ∨ ∃ k1 t1 w1, k1 < 0 ∧ t1 ≤ 9 ∧ w1 ≤ 4 ∧ (xs (i + 1)) = nI k1 ∧ (xs (i + 2)) = nI t1 ∧ (xs (i + 3)) = nI w1 ∧ r2 = 1 ∧ m2 = zmBo mm k1 t1 w1 := h_r2
  obtain ⟨e_r, hI2⟩ := zL_border (r := 0) hI (by omega) (Or.inl ⟨fun z => by omega, rfl, rfl⟩) h_r2
  refine lv_pop hx hb dLW_law_244 rfl ?_
  refine lv_goto (tgt := 615) hx hb dLW_law_245 rfl ?_
  refine W.widen (k := cl + 2) (n := sl + 68) (by omega) (by omega) ?_
  exact backE mo gr gs bg re sp gp fx m2 rg rn ro sq gq fq g0 g1 g2 g3 gn v0 v1 v2 v3 v4 v5 H locs ls (hI2) (by omega) (lv_sub hl [0, 1, 2, 3] rfl) (zt_sub hP [0, 1, 2, 3, 4, 5, 6, 7, 8, 9, 10, 11, 12, 13, 14, 21, 22, 23, 24, 25, 26, 27, 28, 29, 30, 31, 32, 33, 15, 16, 17, 18, 19, 20] rfl) (zt_subD hD [0, 1, 2, 3, 4, 5, 6, 7, 8, 9, 10, 11, 12, 13, 14, 21, 22, 23, 24, 25, 26, 27, 28, 29, 30, 31, 32, 33, 15, 16, 17, 18, 19, 20] (by decide) rfl) (hK.sub [0, 1, 2, 3, 4, 5, 6, 7, 8, 9, 10, 11, 12, 13, 14, 15, 16, 17, 18, 19, 20, 21, 22] rfl) hS
