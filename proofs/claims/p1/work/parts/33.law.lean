set_option maxHeartbeats 8000000 in
set_option maxRecDepth 100000 in
theorem whole_start {p : Program} {e : Env} {s : State} {m : MethodId} {below : List Frame} {meth : Method} {c : Code} (l : Launch) {b L : Nat} {xs : Nat → Int32} (hL : L ≤ 6) (C0 : lw_At p s m meth c b L xs) : W p l e room_1 s m #[Value.ref b] below meth c s.heap [] 0 0 (lw_Z below #[Value.ref b] s) (entryFrame m ([Value.ref b] : List Value).toArray 4) := by
  obtain ⟨hx, hb, hr, hml, hown, hts0, hXs, hbl, hlocks, hgv⟩ := C0
  have hown : s.vm.findClass "SpannedCellsLaw" = some m.cls := hown
  have hz : ∀ w9 ∈ zT, w9.before #[Value.ref b] s = true := fun w9 h => hts0 w9 (zT_in w9 h)
  have hN : zN s := z_nestOf hts0
  obtain ⟨A, hAd⟩ : ∃ A : Nat → Prop, A = (fun q => s.heap.size ≤ q) := ⟨_, rfl⟩
  have hA : ∀ q : Nat, s.heap.size ≤ q → A q := fun q h => by rw [hAd]; exact h
  have hAl : ∀ q : Nat, A q → s.heap.size ≤ q := fun q h => by rw [hAd] at h; exact h
  have hAb : ¬ A b := fun h => absurd (hAl b h) (by omega)
  obtain ⟨t, hZ⟩ := z_static (A := A) hts0 hgv (fun a h1 h2 => absurd (hAl a h2) (by omega))
  have hX : zX t A s := ⟨hN, hZ⟩
  obtain ⟨dC, dI, hK⟩ := z_knownOf hts0
  rw [lg_entry_eq]
  have hl := lv_entry ([.ref b]) (n := 4) (Nat.le_of_ble_eq_true rfl)
  generalize (lg_sl ([.ref b]) ++ List.replicate (4 - (lg_sl ([.ref b])).length) Slot.unset).toArray = ls at hl ⊢
  have hl : lv_has ls 4 [(0, .ref b)] := hl
  have hP : va_P (dC, dI) vwCl [] s.heap := fun k q h => by simp at h
  have hD : va_D A [] := ⟨fun i j p q h => by simp at h, fun k q h => by simp at h⟩
  have hS : va_S A s.heap s.heap [] := va_S.rf
  refine z_q (fun Q hQ => ?_)
  refine va_new (ci := 0) (fs := [.null, .null, .null, .int 0, .int 0, .int 0]) (C := RSC) (T := TSC) (N := 6) hx hb hz in_SC tySC tokSC hown (hz _ wd_45) (hz _ wd_46) (hz _ wd_29) hK hP hD hS hA rfl (by decide +kernel) (Nat.le_of_ble_eq_true rfl) (Nat.le_of_ble_eq_true rfl) dLW_law_0 (fun q1 H hP hD hS => ?_)
  have hP : va_P (dC, dI) vwCl [(q1, .inr (0, [.null, .null, .null, .int 0, .int 0, .int 0]))] H := hP
  have hD : va_D A [(q1, .inr (0, [.null, .null, .null, .int 0, .int 0, .int 0]))] := hD
  refine W.widen (k := 1) (n := 6) (Nat.le_of_ble_eq_true rfl) (Nat.le_of_ble_eq_true rfl) ?_
  refine lv_dup hx hb dLW_law_3 rfl ?_
  refine zw_callv (wr := []) hK hP hD hS hA [0] [] rfl rfl (by decide) (by decide) (va_runI (As := []) (rest := [.ref q1]) ⟨hx, hb, hml, hown, hz⟩ ((c_SC_init l dC dI q1 t ) H.size) (cwI 0 hz (z_gI wd_49) rfl rfl rfl (hz _ wd_29) (hz _ wd_47) (hz _ wd_48) rfl (by decide +kernel) ⟨Nat.le_of_ble_eq_true rfl, Nat.le_of_ble_eq_true rfl⟩) (zw_preS hK hP hD [0] (by decide) rfl [] rfl zX_blind (zX_call hX hS (va_free (wc := [(q1, .inr (0, [.null, .null, .null, .int 0, .int 0, .int 0]))]) hD hS hA [0] rfl))) rfl rfl hl.1 rfl (lv_room (Nat.le_of_ble_eq_true rfl)) dLW_law_4 ⟨Nat.le_of_ble_eq_true rfl, Nat.le_of_ble_eq_true rfl⟩) (fun u H locs h_r2 hP hD hK hS => ?_)
  obtain ⟨g, wd, hh, al⟩ := u
  have hP : va_P (dC, dI) vwCl [(q1, .inr (0, [.ref g, .ref wd, .ref hh, .int 0, .int 0, .int 0])), (g, .inr (1, [.ref al, .int 1, .int 0, .int 0, .int 0, .int 0])), (al, .inr (2, [.ref t, .int 0, .int 0]))] H := hP.sub [0, 1, 2] rfl
  have hD : va_D A [(q1, .inr (0, [.ref g, .ref wd, .ref hh, .int 0, .int 0, .int 0])), (g, .inr (1, [.ref al, .int 1, .int 0, .int 0, .int 0, .int 0])), (al, .inr (2, [.ref t, .int 0, .int 0]))] := hD.sub [0, 1, 2] (by decide) rfl
  have hK : va_K (dC, dI) vwCl [] s := hK
  refine W.widen (k := 16) (n := 90) (Nat.le_of_ble_eq_true rfl) (Nat.le_of_ble_eq_true rfl) ?_
  refine lv_astore_n hx hb dLW_law_7 rfl hl (Nat.le_of_ble_eq_true rfl) rfl (fun ls hl => ?_)
  have hl : lv_has ls 4 [(1, .ref q1), (0, .ref b)] := hl
  refine va_new (ci := 6) (fs := [.int 0, .null, .null, .int 0, .null, .null, .null, .null, .null, .null, .null, .null, .null, .null, .int 0, .int 0, .int 0, .int 0, .int 0, .int 0, .null, .null, .null, .null, .null, .null]) (C := RMD) (T := TMD) (N := 26) hx hb hz in_MD tyMD tokMD hown (hz _ wd_578) (hz _ wd_579) (hz _ wd_37) hK hP hD hS hA rfl (by decide +kernel) (Nat.le_of_ble_eq_true rfl) (Nat.le_of_ble_eq_true rfl) dLW_law_8 (fun q3 H hP hD hS => ?_)
  have hP : va_P (dC, dI) vwCl [(q1, .inr (0, [.ref g, .ref wd, .ref hh, .int 0, .int 0, .int 0])), (g, .inr (1, [.ref al, .int 1, .int 0, .int 0, .int 0, .int 0])), (al, .inr (2, [.ref t, .int 0, .int 0])), (q3, .inr (6, [.int 0, .null, .null, .int 0, .null, .null, .null, .null, .null, .null, .null, .null, .null, .null, .int 0, .int 0, .int 0, .int 0, .int 0, .int 0, .null, .null, .null, .null, .null, .null]))] H := hP
  have hD : va_D A [(q1, .inr (0, [.ref g, .ref wd, .ref hh, .int 0, .int 0, .int 0])), (g, .inr (1, [.ref al, .int 1, .int 0, .int 0, .int 0, .int 0])), (al, .inr (2, [.ref t, .int 0, .int 0])), (q3, .inr (6, [.int 0, .null, .null, .int 0, .null, .null, .null, .null, .null, .null, .null, .null, .null, .null, .int 0, .int 0, .int 0, .int 0, .int 0, .int 0, .null, .null, .null, .null, .null, .null]))] := hD
  refine W.widen (k := 17) (n := 116) (Nat.le_of_ble_eq_true rfl) (Nat.le_of_ble_eq_true rfl) ?_
  refine lv_dup hx hb dLW_law_11 rfl ?_
  refine zw_callv (wr := [(q1, .inr (0, [.ref g, .ref wd, .ref hh, .int 0, .int 0, .int 0])), (g, .inr (1, [.ref al, .int 1, .int 0, .int 0, .int 0, .int 0])), (al, .inr (2, [.ref t, .int 0, .int 0]))]) hK hP hD hS hA [3] [0, 1, 2] rfl rfl (by decide) (by decide) (va_runI (As := []) (rest := [.ref q3]) ⟨hx, hb, hml, hown, hz⟩ ((c_MD_init l dC dI q3 ) H.size) (cwI 0 hz (z_gI wd_582) rfl rfl rfl (hz _ wd_37) (hz _ wd_580) (hz _ wd_581) rfl (by decide +kernel) ⟨Nat.le_of_ble_eq_true rfl, Nat.le_of_ble_eq_true rfl⟩) (zw_preS hK hP hD [3] (by decide) rfl [] rfl z_true (fun _ _ _ => trivial)) rfl rfl hl.1 rfl (lv_room (Nat.le_of_ble_eq_true rfl)) dLW_law_12 ⟨Nat.le_of_ble_eq_true rfl, Nat.le_of_ble_eq_true rfl⟩) (fun u H locs h_r4 hP hD hK hS => ?_)
  obtain ⟨b0, b1, b2, b3, b4, b5, b6, b7, b8, b9, b10, b11, b12, b13, b14, b15, b16, b17, kb0, kb1, kb12, kb13, kb14, kb17, kb15⟩ := u
  have hP : va_P (dC, dI) vwCl [(q1, .inr (0, [.ref g, .ref wd, .ref hh, .int 0, .int 0, .int 0])), (g, .inr (1, [.ref al, .int 1, .int 0, .int 0, .int 0, .int 0])), (al, .inr (2, [.ref t, .int 0, .int 0])), (q3, .inr (6, [.int 1, .ref b0, .ref b1, .int 0, .ref b2, .ref b3, .ref b4, .ref b5, .ref b6, .ref b7, .ref b8, .ref b9, .ref b10, .ref b11, .int (-1), .int 0, .int 0, .int 0, .int 0, .int 0, .ref b12, .ref b13, .ref b14, .ref b15, .ref b16, .ref b17])), (b0, .inl (kb0, 8, .inl (fun _ => 0))), (b1, .inl (kb1, 8, .inl (fun _ => 0))), (b12, .inl (kb12, 12, .inl (fun _ => 0))), (b13, .inl (kb13, 12, .inl (fun _ => 0))), (b14, .inl (kb14, 12, .inl (fun _ => 0))), (b17, .inl (kb17, 12, .inl (fun _ => 0))), (b15, .inl (kb15, 12, .inl (fun _ => 0)))] H := hP.sub [0, 1, 2, 3, 4, 5, 6, 7, 8, 9, 10] rfl
  have hD : va_D A [(q1, .inr (0, [.ref g, .ref wd, .ref hh, .int 0, .int 0, .int 0])), (g, .inr (1, [.ref al, .int 1, .int 0, .int 0, .int 0, .int 0])), (al, .inr (2, [.ref t, .int 0, .int 0])), (q3, .inr (6, [.int 1, .ref b0, .ref b1, .int 0, .ref b2, .ref b3, .ref b4, .ref b5, .ref b6, .ref b7, .ref b8, .ref b9, .ref b10, .ref b11, .int (-1), .int 0, .int 0, .int 0, .int 0, .int 0, .ref b12, .ref b13, .ref b14, .ref b15, .ref b16, .ref b17])), (b0, .inl (kb0, 8, .inl (fun _ => 0))), (b1, .inl (kb1, 8, .inl (fun _ => 0))), (b12, .inl (kb12, 12, .inl (fun _ => 0))), (b13, .inl (kb13, 12, .inl (fun _ => 0))), (b14, .inl (kb14, 12, .inl (fun _ => 0))), (b17, .inl (kb17, 12, .inl (fun _ => 0))), (b15, .inl (kb15, 12, .inl (fun _ => 0)))] := hD.sub [0, 1, 2, 3, 4, 5, 6, 7, 8, 9, 10] (by decide) rfl
  have hK : va_K (dC, dI) vwCl [(kb0, .int), (kb1, .int), (kb12, .int), (kb13, .int), (kb14, .int), (kb17, .int), (kb15, .int)] s := hK
  refine W.widen (k := 35) (n := 604) (Nat.le_of_ble_eq_true rfl) (Nat.le_of_ble_eq_true rfl) ?_
  refine lv_astore_n hx hb dLW_law_15 rfl hl (Nat.le_of_ble_eq_true rfl) rfl (fun ls hl => ?_)
  have hl : lv_has ls 4 [(2, .ref q3), (1, .ref q1), (0, .ref b)] := hl
  refine lv_iconst (v := 0) hx hb dLW_law_16 (by decide) ?_
  refine lv_istore_n hx hb dLW_law_17 rfl hl (Nat.le_of_ble_eq_true rfl) rfl (fun ls hl => ?_)
  have hl : lv_has ls 4 [(3, .int 0), (2, .ref q3), (1, .ref q1), (0, .ref b)] := hl
  refine lv_iload_n hx hb dLW_law_18 rfl (lv_at hl 0 rfl) ?_
  refine lv_aload_n hx hb dLW_law_19 rfl (lv_at hl 3 rfl) ?_
  refine va_slen hx hb hXs hbl hAb hS dLW_law_20 ?_
  refine lv_bipush (v := 6) hx hb dLW_law_21 (by decide) ?_
  refine lv_isub hx hb dLW_law_23 ?_
  have END : ∀ (H : Heap) (locs : List Loc) (ls : Array Slot), va_S A s.heap H locs → W p l e room_1 s m #[Value.ref b] below meth c H locs 35 604 Q (F0 m 621 ls []) := by
    intro H locs ls hS
    refine lv_iconst (v := 1) hx hb dLW_law_621 (by decide) ?_
    refine va_forget (fun q hq => hAl _ (hS.2.2 q hq)) ?_
    refine W.widen (k := 600000) (n := 7302249) (Nat.le_of_ble_eq_true rfl) (Nat.le_of_ble_eq_true rfl) ?_
    subst hQ
    exact lw_ret hx hb hr hlocks dLW_law_622
  rcases Nat.lt_or_ge L 6 with hL6 | hL6
  · refine lv_icmp_gt (tgt := 621) hx hb dLW_law_24 rfl (fun _ => ?_) (fun h => absurd (show nI L - nI 6 < 0 from pk_sneg (by decide) hL6) h)
    exact END H locs ls hS
  have hLe : L = 6 := by omega
  subst hLe
  refine lv_icmp_gt (tgt := 621) hx hb dLW_law_24 rfl (fun h => absurd h (by decide)) (fun _ => ?_)
  have BACK : ∀ (H : Heap) (locs : List Loc) (ls : Array Slot), lv_has ls 4 [(3, .int 0), (0, .ref b)] → va_S A s.heap H locs → W p l e room_1 s m #[Value.ref b] below meth c H locs 35 604 Q (F0 m 615 ls []) := by
    intro H locs ls hl hS
    refine lv_iinc (k := 0) (v := 6) hx hb dLW_law_615 hl rfl (by decide) (Nat.le_of_ble_eq_true rfl) rfl (fun ls hl => ?_)
    have hl : lv_has ls 4 [(3, .int 6), (0, .ref b)] := hl
    refine lv_goto (tgt := 18) hx hb dLW_law_618 rfl ?_
    refine lv_iload_n hx hb dLW_law_18 rfl (lv_at hl 0 rfl) ?_
    refine lv_aload_n hx hb dLW_law_19 rfl (lv_at hl 1 rfl) ?_
    refine va_slen hx hb hXs hbl hAb hS dLW_law_20 ?_
    refine lv_topi (fun x5 e6 => ?_)
    have e6 : x5 = 6 := e6.trans (rfl)
    subst e6
    refine lv_bipush (v := 6) hx hb dLW_law_21 (by decide) ?_
    refine lv_isub hx hb dLW_law_23 ?_
    refine lv_topi (fun x7 e8 => ?_)
    have e8 : x7 = 0 := e8.trans (by decide)
    subst e8
    refine lv_icmp_gt (tgt := 621) hx hb dLW_law_24 rfl (fun _ => ?_) (fun h => absurd (by decide) h)
    exact END H locs ls hS
  refine lv_aload_n hx hb dLW_law_27 rfl (lv_at hl 3 rfl) ?_
  refine lv_iload_n hx hb dLW_law_28 rfl (lv_at hl 0 rfl) ?_
  refine va_sld hx hb hXs hbl hAb hS (by unfold vp_in; decide) dLW_law_29 ?_
  refine lv_topi (fun z9 e_z9 => ?_)
  refine lv_bipush (v := 31) hx hb dLW_law_30 (by decide) ?_
  refine lv_iand hx hb dLW_law_32 ?_
  obtain ⟨j, hj, ej⟩ := pk_andE z9 5 (m := 31) (by decide)
  rw [ej]
  rcases (show j = 0 ∨ j = 1 ∨ j = 2 ∨ j = 3 ∨ j = 4 ∨ j = 5 ∨ j = 6 ∨ j = 7 ∨ j = 8 ∨ j = 9 ∨ j = 10 ∨ j = 11 ∨ j = 12 ∨ j = 13 ∨ j = 14 ∨ j = 15 ∨ j = 16 ∨ 17 ≤ j by omega) with rfl | rfl | rfl | rfl | rfl | rfl | rfl | rfl | rfl | rfl | rfl | rfl | rfl | rfl | rfl | rfl | rfl | hj17
  · refine lv_tableIn (off := 83) (tgt := 116) hx hb dLW_law_33 (by decide) (by decide) (by decide) rfl ?_
    refine lv_aload_n hx hb dLW_law_116 rfl (lv_at hl 2 rfl) ?_
    refine zw_calli (wr := [(q3, .inr (6, [.int 1, .ref b0, .ref b1, .int 0, .ref b2, .ref b3, .ref b4, .ref b5, .ref b6, .ref b7, .ref b8, .ref b9, .ref b10, .ref b11, .int (-1), .int 0, .int 0, .int 0, .int 0, .int 0, .ref b12, .ref b13, .ref b14, .ref b15, .ref b16, .ref b17])), (b0, .inl (kb0, 8, .inl (fun _ => 0))), (b1, .inl (kb1, 8, .inl (fun _ => 0))), (b12, .inl (kb12, 12, .inl (fun _ => 0))), (b13, .inl (kb13, 12, .inl (fun _ => 0))), (b14, .inl (kb14, 12, .inl (fun _ => 0))), (b17, .inl (kb17, 12, .inl (fun _ => 0))), (b15, .inl (kb15, 12, .inl (fun _ => 0)))]) hK hP hD hS hA [0, 1, 2] [3, 4, 5, 6, 7, 8, 9, 10] rfl rfl (by decide) (by decide) (va_runV (As := []) (rest := []) ⟨hx, hb, hml, hown, hz⟩ ((c_SC_group l dC dI q1 g wd hh al t 0 ) H.size) (cwV 0 hz (z_gV wd_169 wd_170 wd_171 wd_29 wd_172) rfl rfl rfl (by decide +kernel) ⟨Nat.le_of_ble_eq_true rfl, Nat.le_of_ble_eq_true rfl⟩) (zw_preV (q0 := 0) (q := (RSC, TSC, 6)) hK hP hD rfl rfl [0, 1, 2] (by decide) rfl [] rfl z_true (fun _ _ _ => trivial)) rfl rfl hl.1 rfl (lv_room (Nat.le_of_ble_eq_true rfl)) dLW_law_117 ⟨Nat.le_of_ble_eq_true rfl, Nat.le_of_ble_eq_true rfl⟩) (fun r10 u H locs h_r10 hP hD hK hS => ?_)
    have hP : va_P (dC, dI) vwCl [(q3, .inr (6, [.int 1, .ref b0, .ref b1, .int 0, .ref b2, .ref b3, .ref b4, .ref b5, .ref b6, .ref b7, .ref b8, .ref b9, .ref b10, .ref b11, .int (-1), .int 0, .int 0, .int 0, .int 0, .int 0, .ref b12, .ref b13, .ref b14, .ref b15, .ref b16, .ref b17])), (b0, .inl (kb0, 8, .inl (fun _ => 0))), (b1, .inl (kb1, 8, .inl (fun _ => 0))), (b12, .inl (kb12, 12, .inl (fun _ => 0))), (b13, .inl (kb13, 12, .inl (fun _ => 0))), (b14, .inl (kb14, 12, .inl (fun _ => 0))), (b17, .inl (kb17, 12, .inl (fun _ => 0))), (b15, .inl (kb15, 12, .inl (fun _ => 0)))] H := hP.sub [0, 1, 2, 3, 4, 5, 6, 7] rfl
    have hD : va_D A [(q3, .inr (6, [.int 1, .ref b0, .ref b1, .int 0, .ref b2, .ref b3, .ref b4, .ref b5, .ref b6, .ref b7, .ref b8, .ref b9, .ref b10, .ref b11, .int (-1), .int 0, .int 0, .int 0, .int 0, .int 0, .ref b12, .ref b13, .ref b14, .ref b15, .ref b16, .ref b17])), (b0, .inl (kb0, 8, .inl (fun _ => 0))), (b1, .inl (kb1, 8, .inl (fun _ => 0))), (b12, .inl (kb12, 12, .inl (fun _ => 0))), (b13, .inl (kb13, 12, .inl (fun _ => 0))), (b14, .inl (kb14, 12, .inl (fun _ => 0))), (b17, .inl (kb17, 12, .inl (fun _ => 0))), (b15, .inl (kb15, 12, .inl (fun _ => 0)))] := hD.sub [0, 1, 2, 3, 4, 5, 6, 7] (by decide) rfl
    have hK : va_K (dC, dI) vwCl [(kb0, .int), (kb1, .int), (kb12, .int), (kb13, .int), (kb14, .int), (kb17, .int), (kb15, .int)] s := hK
    have h_r10 : r10 = 2 := h_r10
    subst h_r10
    refine lv_aload_n hx hb dLW_law_120 rfl (lv_at hl 1 rfl) ?_
    refine zw_calli (wr := [(b12, .inl (kb12, 12, .inl (fun _ => 0))), (b13, .inl (kb13, 12, .inl (fun _ => 0))), (b14, .inl (kb14, 12, .inl (fun _ => 0))), (b17, .inl (kb17, 12, .inl (fun _ => 0))), (b15, .inl (kb15, 12, .inl (fun _ => 0)))]) hK hP hD hS hA [0, 1, 2] [3, 4, 5, 6, 7] rfl rfl (by decide) (by decide) (va_runV (As := []) (rest := [.int 2]) ⟨hx, hb, hml, hown, hz⟩ ((c_MD_group l dC dI q3 b0 b1 b2 b3 b4 b5 b6 b7 b8 b9 b10 b11 b12 b13 b14 b15 b16 b17 kb0 kb1 ) H.size) (cwV 0 hz (z_gV wd_664 wd_665 wd_666 wd_37 wd_667) rfl rfl rfl (by decide +kernel) ⟨Nat.le_of_ble_eq_true rfl, Nat.le_of_ble_eq_true rfl⟩) (zw_preV (q0 := 0) (q := (RMD, TMD, 26)) hK hP hD rfl rfl [0, 1, 2] (by decide) rfl [0, 1] rfl z_true (fun _ _ _ => trivial)) rfl rfl hl.1 rfl (lv_room (Nat.le_of_ble_eq_true rfl)) dLW_law_121 ⟨Nat.le_of_ble_eq_true rfl, Nat.le_of_ble_eq_true rfl⟩) (fun r11 u H locs h_r11 hP hD hK hS => ?_)
    have hP : va_P (dC, dI) vwCl [(b12, .inl (kb12, 12, .inl (fun _ => 0))), (b13, .inl (kb13, 12, .inl (fun _ => 0))), (b14, .inl (kb14, 12, .inl (fun _ => 0))), (b17, .inl (kb17, 12, .inl (fun _ => 0))), (b15, .inl (kb15, 12, .inl (fun _ => 0)))] H := hP.sub [0, 1, 2, 3, 4] rfl
    have hD : va_D A [(b12, .inl (kb12, 12, .inl (fun _ => 0))), (b13, .inl (kb13, 12, .inl (fun _ => 0))), (b14, .inl (kb14, 12, .inl (fun _ => 0))), (b17, .inl (kb17, 12, .inl (fun _ => 0))), (b15, .inl (kb15, 12, .inl (fun _ => 0)))] := hD.sub [0, 1, 2, 3, 4] (by decide) rfl
    have hK : va_K (dC, dI) vwCl [(kb0, .int), (kb1, .int), (kb12, .int), (kb13, .int), (kb14, .int), (kb17, .int), (kb15, .int)] s := hK
    have h_r11 : r11 = 2 := h_r11
    subst h_r11
    refine lv_icmp_eq (tgt := 615) hx hb dLW_law_124 rfl (fun _ => ?_) (fun h => absurd (by decide) h)
    exact BACK H locs ls (lv_sub hl [0, 3] rfl) hS
  · refine lv_tableIn (off := 96) (tgt := 129) hx hb dLW_law_33 (by decide) (by decide) (by decide) rfl ?_
    refine lv_aload_n hx hb dLW_law_129 rfl (lv_at hl 2 rfl) ?_
    refine zw_calli (wr := [(q3, .inr (6, [.int 1, .ref b0, .ref b1, .int 0, .ref b2, .ref b3, .ref b4, .ref b5, .ref b6, .ref b7, .ref b8, .ref b9, .ref b10, .ref b11, .int (-1), .int 0, .int 0, .int 0, .int 0, .int 0, .ref b12, .ref b13, .ref b14, .ref b15, .ref b16, .ref b17])), (b0, .inl (kb0, 8, .inl (fun _ => 0))), (b1, .inl (kb1, 8, .inl (fun _ => 0))), (b12, .inl (kb12, 12, .inl (fun _ => 0))), (b13, .inl (kb13, 12, .inl (fun _ => 0))), (b14, .inl (kb14, 12, .inl (fun _ => 0))), (b17, .inl (kb17, 12, .inl (fun _ => 0))), (b15, .inl (kb15, 12, .inl (fun _ => 0)))]) hK hP hD hS hA [0, 1, 2] [3, 4, 5, 6, 7, 8, 9, 10] rfl rfl (by decide) (by decide) (va_runV (As := []) (rest := []) ⟨hx, hb, hml, hown, hz⟩ ((c_SC_row l dC dI q1 g wd hh al t 0 ) H.size) (cwV 0 hz (z_gV wd_177 wd_178 wd_179 wd_29 wd_180) rfl rfl rfl (by decide +kernel) ⟨Nat.le_of_ble_eq_true rfl, Nat.le_of_ble_eq_true rfl⟩) (zw_preV (q0 := 0) (q := (RSC, TSC, 6)) hK hP hD rfl rfl [0, 1, 2] (by decide) rfl [] rfl z_true (fun _ _ _ => trivial)) rfl rfl hl.1 rfl (lv_room (Nat.le_of_ble_eq_true rfl)) dLW_law_130 ⟨Nat.le_of_ble_eq_true rfl, Nat.le_of_ble_eq_true rfl⟩) (fun r12 u H locs h_r12 hP hD hK hS => ?_)
    have hP : va_P (dC, dI) vwCl [(q3, .inr (6, [.int 1, .ref b0, .ref b1, .int 0, .ref b2, .ref b3, .ref b4, .ref b5, .ref b6, .ref b7, .ref b8, .ref b9, .ref b10, .ref b11, .int (-1), .int 0, .int 0, .int 0, .int 0, .int 0, .ref b12, .ref b13, .ref b14, .ref b15, .ref b16, .ref b17])), (b0, .inl (kb0, 8, .inl (fun _ => 0))), (b1, .inl (kb1, 8, .inl (fun _ => 0))), (b12, .inl (kb12, 12, .inl (fun _ => 0))), (b13, .inl (kb13, 12, .inl (fun _ => 0))), (b14, .inl (kb14, 12, .inl (fun _ => 0))), (b17, .inl (kb17, 12, .inl (fun _ => 0))), (b15, .inl (kb15, 12, .inl (fun _ => 0)))] H := hP.sub [0, 1, 2, 3, 4, 5, 6, 7] rfl
    have hD : va_D A [(q3, .inr (6, [.int 1, .ref b0, .ref b1, .int 0, .ref b2, .ref b3, .ref b4, .ref b5, .ref b6, .ref b7, .ref b8, .ref b9, .ref b10, .ref b11, .int (-1), .int 0, .int 0, .int 0, .int 0, .int 0, .ref b12, .ref b13, .ref b14, .ref b15, .ref b16, .ref b17])), (b0, .inl (kb0, 8, .inl (fun _ => 0))), (b1, .inl (kb1, 8, .inl (fun _ => 0))), (b12, .inl (kb12, 12, .inl (fun _ => 0))), (b13, .inl (kb13, 12, .inl (fun _ => 0))), (b14, .inl (kb14, 12, .inl (fun _ => 0))), (b17, .inl (kb17, 12, .inl (fun _ => 0))), (b15, .inl (kb15, 12, .inl (fun _ => 0)))] := hD.sub [0, 1, 2, 3, 4, 5, 6, 7] (by decide) rfl
    have hK : va_K (dC, dI) vwCl [(kb0, .int), (kb1, .int), (kb12, .int), (kb13, .int), (kb14, .int), (kb17, .int), (kb15, .int)] s := hK
    have h_r12 : r12 = 0 := h_r12
    subst h_r12
    refine lv_aload_n hx hb dLW_law_133 rfl (lv_at hl 1 rfl) ?_
    refine zw_calli (wr := [(b12, .inl (kb12, 12, .inl (fun _ => 0))), (b13, .inl (kb13, 12, .inl (fun _ => 0))), (b14, .inl (kb14, 12, .inl (fun _ => 0))), (b17, .inl (kb17, 12, .inl (fun _ => 0))), (b15, .inl (kb15, 12, .inl (fun _ => 0)))]) hK hP hD hS hA [0, 1, 2] [3, 4, 5, 6, 7] rfl rfl (by decide) (by decide) (va_runV (As := []) (rest := [.int 0]) ⟨hx, hb, hml, hown, hz⟩ ((c_MD_row l dC dI q3 b0 b1 b2 b3 b4 b5 b6 b7 b8 b9 b10 b11 b12 b13 b14 b15 b16 b17 kb0 kb1 ) H.size) (cwV 0 hz (z_gV wd_672 wd_673 wd_674 wd_37 wd_675) rfl rfl rfl (by decide +kernel) ⟨Nat.le_of_ble_eq_true rfl, Nat.le_of_ble_eq_true rfl⟩) (zw_preV (q0 := 0) (q := (RMD, TMD, 26)) hK hP hD rfl rfl [0, 1, 2] (by decide) rfl [0, 1] rfl z_true (fun _ _ _ => trivial)) rfl rfl hl.1 rfl (lv_room (Nat.le_of_ble_eq_true rfl)) dLW_law_134 ⟨Nat.le_of_ble_eq_true rfl, Nat.le_of_ble_eq_true rfl⟩) (fun r13 u H locs h_r13 hP hD hK hS => ?_)
    have hP : va_P (dC, dI) vwCl [(b12, .inl (kb12, 12, .inl (fun _ => 0))), (b13, .inl (kb13, 12, .inl (fun _ => 0))), (b14, .inl (kb14, 12, .inl (fun _ => 0))), (b17, .inl (kb17, 12, .inl (fun _ => 0))), (b15, .inl (kb15, 12, .inl (fun _ => 0)))] H := hP.sub [0, 1, 2, 3, 4] rfl
    have hD : va_D A [(b12, .inl (kb12, 12, .inl (fun _ => 0))), (b13, .inl (kb13, 12, .inl (fun _ => 0))), (b14, .inl (kb14, 12, .inl (fun _ => 0))), (b17, .inl (kb17, 12, .inl (fun _ => 0))), (b15, .inl (kb15, 12, .inl (fun _ => 0)))] := hD.sub [0, 1, 2, 3, 4] (by decide) rfl
    have hK : va_K (dC, dI) vwCl [(kb0, .int), (kb1, .int), (kb12, .int), (kb13, .int), (kb14, .int), (kb17, .int), (kb15, .int)] s := hK
    have h_r13 : r13 = 0 := h_r13
    subst h_r13
    refine lv_icmp_eq (tgt := 615) hx hb dLW_law_137 rfl (fun _ => ?_) (fun h => absurd (by decide) h)
    exact BACK H locs ls (lv_sub hl [0, 3] rfl) hS
  · refine lv_tableIn (off := 109) (tgt := 142) hx hb dLW_law_33 (by decide) (by decide) (by decide) rfl ?_
    refine lv_aload_n hx hb dLW_law_142 rfl (lv_at hl 2 rfl) ?_
    refine lv_aload_n hx hb dLW_law_143 rfl (lv_at hl 3 rfl) ?_
    refine lv_iload_n hx hb dLW_law_144 rfl (lv_at hl 0 rfl) ?_
    refine lv_iconst (v := 1) hx hb dLW_law_145 (by decide) ?_
    refine lv_iadd hx hb dLW_law_146 ?_
    refine lv_topi (fun x14 e15 => ?_)
    have e15 : x14 = 1 := e15.trans (by decide)
    subst e15
    refine va_sld hx hb hXs hbl hAb hS (by unfold vp_in; decide) dLW_law_147 ?_
    refine lv_topi (fun z16 e_z16 => ?_)
    refine lv_aload_n hx hb dLW_law_148 rfl (lv_at hl 3 rfl) ?_
    refine lv_iload_n hx hb dLW_law_149 rfl (lv_at hl 0 rfl) ?_
    refine lv_iconst (v := 2) hx hb dLW_law_150 (by decide) ?_
    refine lv_iadd hx hb dLW_law_151 ?_
    refine lv_topi (fun x17 e18 => ?_)
    have e18 : x17 = 2 := e18.trans (by decide)
    subst e18
    refine va_sld hx hb hXs hbl hAb hS (by unfold vp_in; decide) dLW_law_152 ?_
    refine lv_topi (fun z19 e_z19 => ?_)
    refine lv_aload_n hx hb dLW_law_153 rfl (lv_at hl 3 rfl) ?_
    refine lv_iload_n hx hb dLW_law_154 rfl (lv_at hl 0 rfl) ?_
    refine lv_iconst (v := 3) hx hb dLW_law_155 (by decide) ?_
    refine lv_iadd hx hb dLW_law_156 ?_
    refine lv_topi (fun x20 e21 => ?_)
    have e21 : x20 = 3 := e21.trans (by decide)
    subst e21
    refine va_sld hx hb hXs hbl hAb hS (by unfold vp_in; decide) dLW_law_157 ?_
    refine lv_topi (fun z22 e_z22 => ?_)
    refine lv_aload_n hx hb dLW_law_158 rfl (lv_at hl 3 rfl) ?_
    refine lv_iload_n hx hb dLW_law_159 rfl (lv_at hl 0 rfl) ?_
    refine lv_iconst (v := 4) hx hb dLW_law_160 (by decide) ?_
    refine lv_iadd hx hb dLW_law_161 ?_
    refine lv_topi (fun x23 e24 => ?_)
    have e24 : x23 = 4 := e24.trans (by decide)
    subst e24
    refine va_sld hx hb hXs hbl hAb hS (by unfold vp_in; decide) dLW_law_162 ?_
    refine lv_topi (fun z25 e_z25 => ?_)
    refine lv_aload_n hx hb dLW_law_163 rfl (lv_at hl 3 rfl) ?_
    refine lv_iload_n hx hb dLW_law_164 rfl (lv_at hl 0 rfl) ?_
    refine lv_iconst (v := 5) hx hb dLW_law_165 (by decide) ?_
    refine lv_iadd hx hb dLW_law_166 ?_
    refine lv_topi (fun x26 e27 => ?_)
    have e27 : x26 = 5 := e27.trans (by decide)
    subst e27
    refine va_sld hx hb hXs hbl hAb hS (by unfold vp_in; decide) dLW_law_167 ?_
    refine lv_topi (fun z28 e_z28 => ?_)
    refine vp_callSi (W.runV (As := [.int z16, .int z19, .int z22, .int z25, .int z28]) (rest := []) ⟨hx, hb, hml, hown, hz⟩ (c_SC_cell l dC dI q1 g wd hh al t 0 z16 z19 z22 z25 z28 ) (cwV 5 hz (z_gV wd_215 wd_216 wd_217 wd_29 wd_218) rfl rfl rfl (by decide +kernel) ⟨Nat.le_of_ble_eq_true rfl, Nat.le_of_ble_eq_true rfl⟩) (zp_preV (q0 := 0) (q := (RSC, TSC, 6)) hK hP rfl rfl [0, 1, 2] rfl [] rfl z_true (fun _ _ _ => trivial)) rfl rfl hl.1 rfl (lv_room (Nat.le_of_ble_eq_true rfl)) dLW_law_168 ⟨Nat.le_of_ble_eq_true rfl, Nat.le_of_ble_eq_true rfl⟩) (fun r29 h_r29 => ?_)
    have h_r29 : r29 = (-1) := h_r29
    subst h_r29
    refine lv_aload_n hx hb dLW_law_171 rfl (lv_at hl 1 rfl) ?_
    refine lv_aload_n hx hb dLW_law_172 rfl (lv_at hl 3 rfl) ?_
    refine lv_iload_n hx hb dLW_law_173 rfl (lv_at hl 0 rfl) ?_
    refine lv_iconst (v := 1) hx hb dLW_law_174 (by decide) ?_
    refine lv_iadd hx hb dLW_law_175 ?_
    refine lv_topi (fun x30 e31 => ?_)
    have e31 : x30 = 1 := e31.trans (by decide)
    subst e31
    refine va_sld hx hb hXs hbl hAb hS (by unfold vp_in; decide) dLW_law_176 ?_
    refine lv_topi (fun z32 e_z32 => ?_)
    refine lv_aload_n hx hb dLW_law_177 rfl (lv_at hl 3 rfl) ?_
    refine lv_iload_n hx hb dLW_law_178 rfl (lv_at hl 0 rfl) ?_
    refine lv_iconst (v := 2) hx hb dLW_law_179 (by decide) ?_
    refine lv_iadd hx hb dLW_law_180 ?_
    refine lv_topi (fun x33 e34 => ?_)
    have e34 : x33 = 2 := e34.trans (by decide)
    subst e34
    refine va_sld hx hb hXs hbl hAb hS (by unfold vp_in; decide) dLW_law_181 ?_
    refine lv_topi (fun z35 e_z35 => ?_)
    refine lv_aload_n hx hb dLW_law_182 rfl (lv_at hl 3 rfl) ?_
    refine lv_iload_n hx hb dLW_law_183 rfl (lv_at hl 0 rfl) ?_
    refine lv_iconst (v := 3) hx hb dLW_law_184 (by decide) ?_
    refine lv_iadd hx hb dLW_law_185 ?_
    refine lv_topi (fun x36 e37 => ?_)
    have e37 : x36 = 3 := e37.trans (by decide)
    subst e37
    refine va_sld hx hb hXs hbl hAb hS (by unfold vp_in; decide) dLW_law_186 ?_
    refine lv_topi (fun z38 e_z38 => ?_)
    refine lv_aload_n hx hb dLW_law_187 rfl (lv_at hl 3 rfl) ?_
    refine lv_iload_n hx hb dLW_law_188 rfl (lv_at hl 0 rfl) ?_
    refine lv_iconst (v := 4) hx hb dLW_law_189 (by decide) ?_
    refine lv_iadd hx hb dLW_law_190 ?_
    refine lv_topi (fun x39 e40 => ?_)
    have e40 : x39 = 4 := e40.trans (by decide)
    subst e40
    refine va_sld hx hb hXs hbl hAb hS (by unfold vp_in; decide) dLW_law_191 ?_
    refine lv_topi (fun z41 e_z41 => ?_)
    refine lv_aload_n hx hb dLW_law_192 rfl (lv_at hl 3 rfl) ?_
    refine lv_iload_n hx hb dLW_law_193 rfl (lv_at hl 0 rfl) ?_
    refine lv_iconst (v := 5) hx hb dLW_law_194 (by decide) ?_
    refine lv_iadd hx hb dLW_law_195 ?_
    refine lv_topi (fun x42 e43 => ?_)
    have e43 : x42 = 5 := e43.trans (by decide)
    subst e43
    refine va_sld hx hb hXs hbl hAb hS (by unfold vp_in; decide) dLW_law_196 ?_
    refine lv_topi (fun z44 e_z44 => ?_)
    refine vp_callSi (W.runV (As := [.int z32, .int z35, .int z38, .int z41, .int z44]) (rest := [.int (-1)]) ⟨hx, hb, hml, hown, hz⟩ (c_MD_cell l dC dI q3 b0 b1 b2 b3 b4 b5 b6 b7 b8 b9 b10 b11 b12 b13 b14 b15 b16 b17 z32 z35 z38 z41 z44 ) (cwV 5 hz (z_gV wd_676 wd_677 wd_678 wd_37 wd_679) rfl rfl rfl (by decide +kernel) ⟨Nat.le_of_ble_eq_true rfl, Nat.le_of_ble_eq_true rfl⟩) (zp_preV (q0 := 3) (q := (RMD, TMD, 26)) hK hP rfl rfl [3] rfl [] rfl z_true (fun _ _ _ => trivial)) rfl rfl hl.1 rfl (lv_room (Nat.le_of_ble_eq_true rfl)) dLW_law_197 ⟨Nat.le_of_ble_eq_true rfl, Nat.le_of_ble_eq_true rfl⟩) (fun r45 h_r45 => ?_)
    have h_r45 : r45 = (-1) := h_r45
    subst h_r45
    refine lv_icmp_eq (tgt := 615) hx hb dLW_law_200 rfl (fun _ => ?_) (fun h => absurd (by decide) h)
    exact BACK H locs ls (lv_sub hl [0, 3] rfl) hS
  · refine lv_tableIn (off := 172) (tgt := 205) hx hb dLW_law_33 (by decide) (by decide) (by decide) rfl ?_
    refine lv_aload_n hx hb dLW_law_205 rfl (lv_at hl 2 rfl) ?_
    refine lv_aload_n hx hb dLW_law_206 rfl (lv_at hl 3 rfl) ?_
    refine lv_iload_n hx hb dLW_law_207 rfl (lv_at hl 0 rfl) ?_
    refine lv_iconst (v := 1) hx hb dLW_law_208 (by decide) ?_
    refine lv_iadd hx hb dLW_law_209 ?_
    refine lv_topi (fun x46 e47 => ?_)
    have e47 : x46 = 1 := e47.trans (by decide)
    subst e47
    refine va_sld hx hb hXs hbl hAb hS (by unfold vp_in; decide) dLW_law_210 ?_
    refine lv_topi (fun z48 e_z48 => ?_)
    refine lv_aload_n hx hb dLW_law_211 rfl (lv_at hl 3 rfl) ?_
    refine lv_iload_n hx hb dLW_law_212 rfl (lv_at hl 0 rfl) ?_
    refine lv_iconst (v := 2) hx hb dLW_law_213 (by decide) ?_
    refine lv_iadd hx hb dLW_law_214 ?_
    refine lv_topi (fun x49 e50 => ?_)
    have e50 : x49 = 2 := e50.trans (by decide)
    subst e50
    refine va_sld hx hb hXs hbl hAb hS (by unfold vp_in; decide) dLW_law_215 ?_
    refine lv_topi (fun z51 e_z51 => ?_)
    refine lv_aload_n hx hb dLW_law_216 rfl (lv_at hl 3 rfl) ?_
    refine lv_iload_n hx hb dLW_law_217 rfl (lv_at hl 0 rfl) ?_
    refine lv_iconst (v := 3) hx hb dLW_law_218 (by decide) ?_
    refine lv_iadd hx hb dLW_law_219 ?_
    refine lv_topi (fun x52 e53 => ?_)
    have e53 : x52 = 3 := e53.trans (by decide)
    subst e53
    refine va_sld hx hb hXs hbl hAb hS (by unfold vp_in; decide) dLW_law_220 ?_
    refine lv_topi (fun z54 e_z54 => ?_)
    refine vp_callSi (W.runV (As := [.int z48, .int z51, .int z54]) (rest := []) ⟨hx, hb, hml, hown, hz⟩ (c_SC_border l dC dI q1 g wd hh al t 0 z48 z51 z54 ) (cwV 3 hz (z_gV wd_351 wd_352 wd_353 wd_29 wd_354) rfl rfl rfl (by decide +kernel) ⟨Nat.le_of_ble_eq_true rfl, Nat.le_of_ble_eq_true rfl⟩) (zp_preV (q0 := 0) (q := (RSC, TSC, 6)) hK hP rfl rfl [0, 1, 2] rfl [] rfl z_true (fun _ _ _ => trivial)) rfl rfl hl.1 rfl (lv_room (Nat.le_of_ble_eq_true rfl)) dLW_law_221 ⟨Nat.le_of_ble_eq_true rfl, Nat.le_of_ble_eq_true rfl⟩) (fun r55 h_r55 => ?_)
    have h_r55 : r55 = 0 := h_r55
    subst h_r55
    refine lv_aload_n hx hb dLW_law_224 rfl (lv_at hl 1 rfl) ?_
    refine lv_aload_n hx hb dLW_law_225 rfl (lv_at hl 3 rfl) ?_
    refine lv_iload_n hx hb dLW_law_226 rfl (lv_at hl 0 rfl) ?_
    refine lv_iconst (v := 1) hx hb dLW_law_227 (by decide) ?_
    refine lv_iadd hx hb dLW_law_228 ?_
    refine lv_topi (fun x56 e57 => ?_)
    have e57 : x56 = 1 := e57.trans (by decide)
    subst e57
    refine va_sld hx hb hXs hbl hAb hS (by unfold vp_in; decide) dLW_law_229 ?_
    refine lv_topi (fun z58 e_z58 => ?_)
    refine lv_aload_n hx hb dLW_law_230 rfl (lv_at hl 3 rfl) ?_
    refine lv_iload_n hx hb dLW_law_231 rfl (lv_at hl 0 rfl) ?_
    refine lv_iconst (v := 2) hx hb dLW_law_232 (by decide) ?_
    refine lv_iadd hx hb dLW_law_233 ?_
    refine lv_topi (fun x59 e60 => ?_)
    have e60 : x59 = 2 := e60.trans (by decide)
    subst e60
    refine va_sld hx hb hXs hbl hAb hS (by unfold vp_in; decide) dLW_law_234 ?_
    refine lv_topi (fun z61 e_z61 => ?_)
    refine lv_aload_n hx hb dLW_law_235 rfl (lv_at hl 3 rfl) ?_
    refine lv_iload_n hx hb dLW_law_236 rfl (lv_at hl 0 rfl) ?_
    refine lv_iconst (v := 3) hx hb dLW_law_237 (by decide) ?_
    refine lv_iadd hx hb dLW_law_238 ?_
    refine lv_topi (fun x62 e63 => ?_)
    have e63 : x62 = 3 := e63.trans (by decide)
    subst e63
    refine va_sld hx hb hXs hbl hAb hS (by unfold vp_in; decide) dLW_law_239 ?_
    refine lv_topi (fun z64 e_z64 => ?_)
    refine vp_callSi (W.runV (As := [.int z58, .int z61, .int z64]) (rest := [.int 0]) ⟨hx, hb, hml, hown, hz⟩ (c_MD_border l dC dI q3 b0 b1 b2 b3 b4 b5 b6 b7 b8 b9 b10 b11 b12 b13 b14 b15 b16 b17 z58 z61 z64 ) (cwV 3 hz (z_gV wd_684 wd_685 wd_686 wd_37 wd_687) rfl rfl rfl (by decide +kernel) ⟨Nat.le_of_ble_eq_true rfl, Nat.le_of_ble_eq_true rfl⟩) (zp_preV (q0 := 3) (q := (RMD, TMD, 26)) hK hP rfl rfl [3] rfl [] rfl z_true (fun _ _ _ => trivial)) rfl rfl hl.1 rfl (lv_room (Nat.le_of_ble_eq_true rfl)) dLW_law_240 ⟨Nat.le_of_ble_eq_true rfl, Nat.le_of_ble_eq_true rfl⟩) (fun r65 h_r65 => ?_)
    have h_r65 : r65 = 0 := h_r65
    subst h_r65
    refine lv_icmp_eq (tgt := 615) hx hb dLW_law_243 rfl (fun _ => ?_) (fun h => absurd (by decide) h)
    exact BACK H locs ls (lv_sub hl [0, 3] rfl) hS
  · refine lv_tableIn (off := 215) (tgt := 248) hx hb dLW_law_33 (by decide) (by decide) (by decide) rfl ?_
    refine lv_aload_n hx hb dLW_law_248 rfl (lv_at hl 2 rfl) ?_
    refine lv_aload_n hx hb dLW_law_249 rfl (lv_at hl 3 rfl) ?_
    refine lv_iload_n hx hb dLW_law_250 rfl (lv_at hl 0 rfl) ?_
    refine lv_iconst (v := 1) hx hb dLW_law_251 (by decide) ?_
    refine lv_iadd hx hb dLW_law_252 ?_
    refine lv_topi (fun x66 e67 => ?_)
    have e67 : x66 = 1 := e67.trans (by decide)
    subst e67
    refine va_sld hx hb hXs hbl hAb hS (by unfold vp_in; decide) dLW_law_253 ?_
    refine lv_topi (fun z68 e_z68 => ?_)
    refine lv_aload_n hx hb dLW_law_254 rfl (lv_at hl 3 rfl) ?_
    refine lv_iload_n hx hb dLW_law_255 rfl (lv_at hl 0 rfl) ?_
    refine lv_iconst (v := 2) hx hb dLW_law_256 (by decide) ?_
    refine lv_iadd hx hb dLW_law_257 ?_
    refine lv_topi (fun x69 e70 => ?_)
    have e70 : x69 = 2 := e70.trans (by decide)
    subst e70
    refine va_sld hx hb hXs hbl hAb hS (by unfold vp_in; decide) dLW_law_258 ?_
    refine lv_topi (fun z71 e_z71 => ?_)
    refine lv_aload_n hx hb dLW_law_259 rfl (lv_at hl 3 rfl) ?_
    refine lv_iload_n hx hb dLW_law_260 rfl (lv_at hl 0 rfl) ?_
    refine lv_iconst (v := 3) hx hb dLW_law_261 (by decide) ?_
    refine lv_iadd hx hb dLW_law_262 ?_
    refine lv_topi (fun x72 e73 => ?_)
    have e73 : x72 = 3 := e73.trans (by decide)
    subst e73
    refine va_sld hx hb hXs hbl hAb hS (by unfold vp_in; decide) dLW_law_263 ?_
    refine lv_topi (fun z74 e_z74 => ?_)
    refine z_join (fun v264 : Int32 => v264 = 0 ∨ v264 = 1) (fun v264 => W p l e (room_1) s m #[Value.ref b] below meth c H locs 35 604 Q (F0 m 272 ls (.int v264 :: [.int z71, .int z68, .ref q1]))) (fun v264 hv264 => ?_) (fun J272 => ?_)
    · refine zw_calli (wr := [(q3, .inr (6, [.int 1, .ref b0, .ref b1, .int 0, .ref b2, .ref b3, .ref b4, .ref b5, .ref b6, .ref b7, .ref b8, .ref b9, .ref b10, .ref b11, .int (-1), .int 0, .int 0, .int 0, .int 0, .int 0, .ref b12, .ref b13, .ref b14, .ref b15, .ref b16, .ref b17])), (b0, .inl (kb0, 8, .inl (fun _ => 0))), (b1, .inl (kb1, 8, .inl (fun _ => 0))), (b12, .inl (kb12, 12, .inl (fun _ => 0))), (b13, .inl (kb13, 12, .inl (fun _ => 0))), (b14, .inl (kb14, 12, .inl (fun _ => 0))), (b17, .inl (kb17, 12, .inl (fun _ => 0))), (b15, .inl (kb15, 12, .inl (fun _ => 0)))]) hK hP hD hS hA [0, 1, 2] [3, 4, 5, 6, 7, 8, 9, 10] rfl rfl (by decide) (by decide) (va_runV (As := [.int z68, .int z71, .int v264]) (rest := []) ⟨hx, hb, hml, hown, hz⟩ ((c_SC_layout l dC dI q1 g wd hh al t 0 z68 z71 v264 hv264) H.size) (cwV 3 hz (z_gV wd_367 wd_368 wd_369 wd_29 wd_370) rfl rfl rfl (by decide +kernel) ⟨Nat.le_of_ble_eq_true rfl, Nat.le_of_ble_eq_true rfl⟩) (zw_preV (q0 := 0) (q := (RSC, TSC, 6)) hK hP hD rfl rfl [0, 1, 2] (by decide) rfl [] rfl z_true (fun _ _ _ => trivial)) rfl rfl hl.1 rfl (lv_room (Nat.le_of_ble_eq_true rfl)) dLW_law_272 ⟨Nat.le_of_ble_eq_true rfl, Nat.le_of_ble_eq_true rfl⟩) (fun rx u H locs h_rx hP hD hK hS => ?_)
      have hP : va_P (dC, dI) vwCl [(q3, .inr (6, [.int 1, .ref b0, .ref b1, .int 0, .ref b2, .ref b3, .ref b4, .ref b5, .ref b6, .ref b7, .ref b8, .ref b9, .ref b10, .ref b11, .int (-1), .int 0, .int 0, .int 0, .int 0, .int 0, .ref b12, .ref b13, .ref b14, .ref b15, .ref b16, .ref b17])), (b0, .inl (kb0, 8, .inl (fun _ => 0))), (b1, .inl (kb1, 8, .inl (fun _ => 0))), (b12, .inl (kb12, 12, .inl (fun _ => 0))), (b13, .inl (kb13, 12, .inl (fun _ => 0))), (b14, .inl (kb14, 12, .inl (fun _ => 0))), (b17, .inl (kb17, 12, .inl (fun _ => 0))), (b15, .inl (kb15, 12, .inl (fun _ => 0)))] H := hP.sub [0, 1, 2, 3, 4, 5, 6, 7] rfl
      have hD : va_D A [(q3, .inr (6, [.int 1, .ref b0, .ref b1, .int 0, .ref b2, .ref b3, .ref b4, .ref b5, .ref b6, .ref b7, .ref b8, .ref b9, .ref b10, .ref b11, .int (-1), .int 0, .int 0, .int 0, .int 0, .int 0, .ref b12, .ref b13, .ref b14, .ref b15, .ref b16, .ref b17])), (b0, .inl (kb0, 8, .inl (fun _ => 0))), (b1, .inl (kb1, 8, .inl (fun _ => 0))), (b12, .inl (kb12, 12, .inl (fun _ => 0))), (b13, .inl (kb13, 12, .inl (fun _ => 0))), (b14, .inl (kb14, 12, .inl (fun _ => 0))), (b17, .inl (kb17, 12, .inl (fun _ => 0))), (b15, .inl (kb15, 12, .inl (fun _ => 0)))] := hD.sub [0, 1, 2, 3, 4, 5, 6, 7] (by decide) rfl
      have hK : va_K (dC, dI) vwCl [(kb0, .int), (kb1, .int), (kb12, .int), (kb13, .int), (kb14, .int), (kb17, .int), (kb15, .int)] s := hK
      refine lv_aload_n hx hb dLW_law_275 rfl (lv_at hl 1 rfl) ?_
      refine lv_aload_n hx hb dLW_law_276 rfl (lv_at hl 3 rfl) ?_
      refine lv_iload_n hx hb dLW_law_277 rfl (lv_at hl 0 rfl) ?_
      refine lv_iconst (v := 1) hx hb dLW_law_278 (by decide) ?_
      refine lv_iadd hx hb dLW_law_279 ?_
      refine lv_topi (fun x75 e76 => ?_)
      have e76 : x75 = 1 := e76.trans (by decide)
      subst e76
      refine va_sld hx hb hXs hbl hAb hS (by unfold vp_in; decide) dLW_law_280 ?_
      refine lv_topi (fun z77 e_z77 => ?_)
      refine lv_aload_n hx hb dLW_law_281 rfl (lv_at hl 3 rfl) ?_
      refine lv_iload_n hx hb dLW_law_282 rfl (lv_at hl 0 rfl) ?_
      refine lv_iconst (v := 2) hx hb dLW_law_283 (by decide) ?_
      refine lv_iadd hx hb dLW_law_284 ?_
      refine lv_topi (fun x78 e79 => ?_)
      have e79 : x78 = 2 := e79.trans (by decide)
      subst e79
      refine va_sld hx hb hXs hbl hAb hS (by unfold vp_in; decide) dLW_law_285 ?_
      refine lv_topi (fun z80 e_z80 => ?_)
      refine lv_aload_n hx hb dLW_law_286 rfl (lv_at hl 3 rfl) ?_
      refine lv_iload_n hx hb dLW_law_287 rfl (lv_at hl 0 rfl) ?_
      refine lv_iconst (v := 3) hx hb dLW_law_288 (by decide) ?_
      refine lv_iadd hx hb dLW_law_289 ?_
      refine lv_topi (fun x81 e82 => ?_)
      have e82 : x81 = 3 := e82.trans (by decide)
      subst e82
      refine va_sld hx hb hXs hbl hAb hS (by unfold vp_in; decide) dLW_law_290 ?_
      refine lv_topi (fun z83 e_z83 => ?_)
      refine z_join (fun v291 : Int32 => v291 = 0 ∨ v291 = 1) (fun v291 => W p l e (room_1) s m #[Value.ref b] below meth c H locs 35 604 Q (F0 m 299 ls (.int v291 :: [.int z80, .int z77, .ref q3, .int rx]))) (fun v291 hv291 => ?_) (fun J299 => ?_)
      · refine zw_calli (wr := [(b0, .inl (kb0, 8, .inl (fun _ => 0))), (b1, .inl (kb1, 8, .inl (fun _ => 0))), (b12, .inl (kb12, 12, .inl (fun _ => 0))), (b13, .inl (kb13, 12, .inl (fun _ => 0))), (b14, .inl (kb14, 12, .inl (fun _ => 0))), (b17, .inl (kb17, 12, .inl (fun _ => 0))), (b15, .inl (kb15, 12, .inl (fun _ => 0)))]) hK hP hD hS hA [0] [1, 2, 3, 4, 5, 6, 7] rfl rfl (by decide) (by decide) (va_runV (As := [.int z77, .int z80, .int v291]) (rest := [.int rx]) ⟨hx, hb, hml, hown, hz⟩ ((c_MD_layout l dC dI q3 b0 b1 b2 b3 b4 b5 b6 b7 b8 b9 b10 b11 b12 b13 b14 b15 b16 b17 z77 z80 v291 hv291) H.size) (cwV 3 hz (z_gV wd_692 wd_693 wd_694 wd_37 wd_695) rfl rfl rfl (by decide +kernel) ⟨Nat.le_of_ble_eq_true rfl, Nat.le_of_ble_eq_true rfl⟩) (zw_preV (q0 := 0) (q := (RMD, TMD, 26)) hK hP hD rfl rfl [0] (by decide) rfl [] rfl z_true (fun _ _ _ => trivial)) rfl rfl hl.1 rfl (lv_room (Nat.le_of_ble_eq_true rfl)) dLW_law_299 ⟨Nat.le_of_ble_eq_true rfl, Nat.le_of_ble_eq_true rfl⟩) (fun rm u H locs h_rm hP hD hK hS => ?_)
        have hP : va_P (dC, dI) vwCl [(b0, .inl (kb0, 8, .inl (fun _ => 0))), (b1, .inl (kb1, 8, .inl (fun _ => 0))), (b12, .inl (kb12, 12, .inl (fun _ => 0))), (b13, .inl (kb13, 12, .inl (fun _ => 0))), (b14, .inl (kb14, 12, .inl (fun _ => 0))), (b17, .inl (kb17, 12, .inl (fun _ => 0))), (b15, .inl (kb15, 12, .inl (fun _ => 0)))] H := hP.sub [0, 1, 2, 3, 4, 5, 6] rfl
        have hD : va_D A [(b0, .inl (kb0, 8, .inl (fun _ => 0))), (b1, .inl (kb1, 8, .inl (fun _ => 0))), (b12, .inl (kb12, 12, .inl (fun _ => 0))), (b13, .inl (kb13, 12, .inl (fun _ => 0))), (b14, .inl (kb14, 12, .inl (fun _ => 0))), (b17, .inl (kb17, 12, .inl (fun _ => 0))), (b15, .inl (kb15, 12, .inl (fun _ => 0)))] := hD.sub [0, 1, 2, 3, 4, 5, 6] (by decide) rfl
        have hK : va_K (dC, dI) vwCl [(kb0, .int), (kb1, .int), (kb12, .int), (kb13, .int), (kb14, .int), (kb17, .int), (kb15, .int)] s := hK
        refine lv_icmp_eq (tgt := 615) hx hb dLW_law_302 rfl (fun _ => ?_) (fun h => absurd (z_same h_rx h_rm) h)
        exact BACK H locs ls (lv_sub hl [0, 3] rfl) hS
      · refine lv_if_eq (tgt := 298) hx hb dLW_law_291 rfl (fun h84 => ?_) (fun h84 => ?_)
        · refine lv_iconst (v := 0) hx hb dLW_law_298 (by decide) ?_
          exact J299 _ (Or.inl rfl)
        · refine lv_iconst (v := 1) hx hb dLW_law_294 (by decide) ?_
          refine lv_goto (tgt := 299) hx hb dLW_law_295 rfl ?_
          exact J299 _ (Or.inr rfl)
    · refine lv_if_eq (tgt := 271) hx hb dLW_law_264 rfl (fun h85 => ?_) (fun h85 => ?_)
      · refine lv_iconst (v := 0) hx hb dLW_law_271 (by decide) ?_
        exact J272 _ (Or.inl rfl)
      · refine lv_iconst (v := 1) hx hb dLW_law_267 (by decide) ?_
        refine lv_goto (tgt := 272) hx hb dLW_law_268 rfl ?_
        exact J272 _ (Or.inr rfl)
  · refine lv_tableIn (off := 274) (tgt := 307) hx hb dLW_law_33 (by decide) (by decide) (by decide) rfl ?_
    refine lv_aload_n hx hb dLW_law_307 rfl (lv_at hl 2 rfl) ?_
    refine zw_calli (wr := [(q3, .inr (6, [.int 1, .ref b0, .ref b1, .int 0, .ref b2, .ref b3, .ref b4, .ref b5, .ref b6, .ref b7, .ref b8, .ref b9, .ref b10, .ref b11, .int (-1), .int 0, .int 0, .int 0, .int 0, .int 0, .ref b12, .ref b13, .ref b14, .ref b15, .ref b16, .ref b17])), (b0, .inl (kb0, 8, .inl (fun _ => 0))), (b1, .inl (kb1, 8, .inl (fun _ => 0))), (b12, .inl (kb12, 12, .inl (fun _ => 0))), (b13, .inl (kb13, 12, .inl (fun _ => 0))), (b14, .inl (kb14, 12, .inl (fun _ => 0))), (b17, .inl (kb17, 12, .inl (fun _ => 0))), (b15, .inl (kb15, 12, .inl (fun _ => 0)))]) hK hP hD hS hA [0, 1, 2] [3, 4, 5, 6, 7, 8, 9, 10] rfl rfl (by decide) (by decide) (va_runV (As := []) (rest := []) ⟨hx, hb, hml, hown, hz⟩ ((c_SC_clear l dC dI q1 g wd hh al t 0 ) H.size) (cwV 0 hz (z_gV wd_371 wd_372 wd_373 wd_29 wd_374) rfl rfl rfl (by decide +kernel) ⟨Nat.le_of_ble_eq_true rfl, Nat.le_of_ble_eq_true rfl⟩) (zw_preV (q0 := 0) (q := (RSC, TSC, 6)) hK hP hD rfl rfl [0, 1, 2] (by decide) rfl [] rfl z_true (fun _ _ _ => trivial)) rfl rfl hl.1 rfl (lv_room (Nat.le_of_ble_eq_true rfl)) dLW_law_308 ⟨Nat.le_of_ble_eq_true rfl, Nat.le_of_ble_eq_true rfl⟩) (fun r86 u H locs h_r86 hP hD hK hS => ?_)
    have hP : va_P (dC, dI) vwCl [(q3, .inr (6, [.int 1, .ref b0, .ref b1, .int 0, .ref b2, .ref b3, .ref b4, .ref b5, .ref b6, .ref b7, .ref b8, .ref b9, .ref b10, .ref b11, .int (-1), .int 0, .int 0, .int 0, .int 0, .int 0, .ref b12, .ref b13, .ref b14, .ref b15, .ref b16, .ref b17])), (b0, .inl (kb0, 8, .inl (fun _ => 0))), (b1, .inl (kb1, 8, .inl (fun _ => 0))), (b12, .inl (kb12, 12, .inl (fun _ => 0))), (b13, .inl (kb13, 12, .inl (fun _ => 0))), (b14, .inl (kb14, 12, .inl (fun _ => 0))), (b17, .inl (kb17, 12, .inl (fun _ => 0))), (b15, .inl (kb15, 12, .inl (fun _ => 0)))] H := hP.sub [0, 1, 2, 3, 4, 5, 6, 7] rfl
    have hD : va_D A [(q3, .inr (6, [.int 1, .ref b0, .ref b1, .int 0, .ref b2, .ref b3, .ref b4, .ref b5, .ref b6, .ref b7, .ref b8, .ref b9, .ref b10, .ref b11, .int (-1), .int 0, .int 0, .int 0, .int 0, .int 0, .ref b12, .ref b13, .ref b14, .ref b15, .ref b16, .ref b17])), (b0, .inl (kb0, 8, .inl (fun _ => 0))), (b1, .inl (kb1, 8, .inl (fun _ => 0))), (b12, .inl (kb12, 12, .inl (fun _ => 0))), (b13, .inl (kb13, 12, .inl (fun _ => 0))), (b14, .inl (kb14, 12, .inl (fun _ => 0))), (b17, .inl (kb17, 12, .inl (fun _ => 0))), (b15, .inl (kb15, 12, .inl (fun _ => 0)))] := hD.sub [0, 1, 2, 3, 4, 5, 6, 7] (by decide) rfl
    have hK : va_K (dC, dI) vwCl [(kb0, .int), (kb1, .int), (kb12, .int), (kb13, .int), (kb14, .int), (kb17, .int), (kb15, .int)] s := hK
    have h_r86 : r86 = 0 := h_r86
    subst h_r86
    refine lv_aload_n hx hb dLW_law_311 rfl (lv_at hl 1 rfl) ?_
    refine zw_calli (wr := [(b12, .inl (kb12, 12, .inl (fun _ => 0))), (b13, .inl (kb13, 12, .inl (fun _ => 0))), (b14, .inl (kb14, 12, .inl (fun _ => 0))), (b17, .inl (kb17, 12, .inl (fun _ => 0))), (b15, .inl (kb15, 12, .inl (fun _ => 0)))]) hK hP hD hS hA [0, 1, 2] [3, 4, 5, 6, 7] rfl rfl (by decide) (by decide) (va_runV (As := []) (rest := [.int 0]) ⟨hx, hb, hml, hown, hz⟩ ((c_MD_clear l dC dI q3 b0 b1 b2 b3 b4 b5 b6 b7 b8 b9 b10 b11 b12 b13 b14 b15 b16 b17 kb0 kb1 ) H.size) (cwV 0 hz (z_gV wd_696 wd_697 wd_698 wd_37 wd_699) rfl rfl rfl (by decide +kernel) ⟨Nat.le_of_ble_eq_true rfl, Nat.le_of_ble_eq_true rfl⟩) (zw_preV (q0 := 0) (q := (RMD, TMD, 26)) hK hP hD rfl rfl [0, 1, 2] (by decide) rfl [0, 1] rfl z_true (fun _ _ _ => trivial)) rfl rfl hl.1 rfl (lv_room (Nat.le_of_ble_eq_true rfl)) dLW_law_312 ⟨Nat.le_of_ble_eq_true rfl, Nat.le_of_ble_eq_true rfl⟩) (fun r87 u H locs h_r87 hP hD hK hS => ?_)
    have hP : va_P (dC, dI) vwCl [(b12, .inl (kb12, 12, .inl (fun _ => 0))), (b13, .inl (kb13, 12, .inl (fun _ => 0))), (b14, .inl (kb14, 12, .inl (fun _ => 0))), (b17, .inl (kb17, 12, .inl (fun _ => 0))), (b15, .inl (kb15, 12, .inl (fun _ => 0)))] H := hP.sub [0, 1, 2, 3, 4] rfl
    have hD : va_D A [(b12, .inl (kb12, 12, .inl (fun _ => 0))), (b13, .inl (kb13, 12, .inl (fun _ => 0))), (b14, .inl (kb14, 12, .inl (fun _ => 0))), (b17, .inl (kb17, 12, .inl (fun _ => 0))), (b15, .inl (kb15, 12, .inl (fun _ => 0)))] := hD.sub [0, 1, 2, 3, 4] (by decide) rfl
    have hK : va_K (dC, dI) vwCl [(kb0, .int), (kb1, .int), (kb12, .int), (kb13, .int), (kb14, .int), (kb17, .int), (kb15, .int)] s := hK
    have h_r87 : r87 = 0 := h_r87
    subst h_r87
    refine lv_icmp_eq (tgt := 615) hx hb dLW_law_315 rfl (fun _ => ?_) (fun h => absurd (by decide) h)
    exact BACK H locs ls (lv_sub hl [0, 3] rfl) hS
  · refine lv_tableIn (off := 287) (tgt := 320) hx hb dLW_law_33 (by decide) (by decide) (by decide) rfl ?_
    refine lv_aload_n hx hb dLW_law_320 rfl (lv_at hl 2 rfl) ?_
    refine vp_callSi (W.runV (As := []) (rest := []) ⟨hx, hb, hml, hown, hz⟩ (c_SC_columns l dC dI q1 g wd hh al t 0 ) (cwV 0 hz (z_gV wd_387 wd_388 wd_389 wd_29 wd_390) rfl rfl rfl (by decide +kernel) ⟨Nat.le_of_ble_eq_true rfl, Nat.le_of_ble_eq_true rfl⟩) (zp_preV (q0 := 0) (q := (RSC, TSC, 6)) hK hP rfl rfl [0, 1, 2] rfl [] rfl z_true (fun _ _ _ => trivial)) rfl rfl hl.1 rfl (lv_room (Nat.le_of_ble_eq_true rfl)) dLW_law_321 ⟨Nat.le_of_ble_eq_true rfl, Nat.le_of_ble_eq_true rfl⟩) (fun r88 h_r88 => ?_)
    have h_r88 : r88 = 0 := h_r88
    subst h_r88
    refine lv_aload_n hx hb dLW_law_324 rfl (lv_at hl 1 rfl) ?_
    refine vp_callSi (W.runV (As := []) (rest := [.int 0]) ⟨hx, hb, hml, hown, hz⟩ (c_MD_columns l dC dI q3 b0 b1 b2 b3 b4 b5 b6 b7 b8 b9 b10 b11 b12 b13 b14 b15 b16 b17 ) (cwV 0 hz (z_gV wd_700 wd_701 wd_702 wd_37 wd_703) rfl rfl rfl (by decide +kernel) ⟨Nat.le_of_ble_eq_true rfl, Nat.le_of_ble_eq_true rfl⟩) (zp_preV (q0 := 3) (q := (RMD, TMD, 26)) hK hP rfl rfl [3] rfl [] rfl z_true (fun _ _ _ => trivial)) rfl rfl hl.1 rfl (lv_room (Nat.le_of_ble_eq_true rfl)) dLW_law_325 ⟨Nat.le_of_ble_eq_true rfl, Nat.le_of_ble_eq_true rfl⟩) (fun r89 h_r89 => ?_)
    have h_r89 : r89 = 0 := h_r89
    subst h_r89
    refine lv_icmp_eq (tgt := 615) hx hb dLW_law_328 rfl (fun _ => ?_) (fun h => absurd (by decide) h)
    exact BACK H locs ls (lv_sub hl [0, 3] rfl) hS
  · refine lv_tableIn (off := 300) (tgt := 333) hx hb dLW_law_33 (by decide) (by decide) (by decide) rfl ?_
    refine lv_aload_n hx hb dLW_law_333 rfl (lv_at hl 2 rfl) ?_
    refine vp_callSi (W.runV (As := []) (rest := []) ⟨hx, hb, hml, hown, hz⟩ (c_SC_rows l dC dI q1 g wd hh al t 0 ) (cwV 0 hz (z_gV wd_395 wd_396 wd_397 wd_29 wd_398) rfl rfl rfl (by decide +kernel) ⟨Nat.le_of_ble_eq_true rfl, Nat.le_of_ble_eq_true rfl⟩) (zp_preV (q0 := 0) (q := (RSC, TSC, 6)) hK hP rfl rfl [0, 1, 2] rfl [] rfl z_true (fun _ _ _ => trivial)) rfl rfl hl.1 rfl (lv_room (Nat.le_of_ble_eq_true rfl)) dLW_law_334 ⟨Nat.le_of_ble_eq_true rfl, Nat.le_of_ble_eq_true rfl⟩) (fun r90 h_r90 => ?_)
    have h_r90 : r90 = 0 := h_r90
    subst h_r90
    refine lv_aload_n hx hb dLW_law_337 rfl (lv_at hl 1 rfl) ?_
    refine vp_callSi (W.runV (As := []) (rest := [.int 0]) ⟨hx, hb, hml, hown, hz⟩ (c_MD_rows l dC dI q3 b0 b1 b2 b3 b4 b5 b6 b7 b8 b9 b10 b11 b12 b13 b14 b15 b16 b17 kb0 kb1 ) (cwV 0 hz (z_gV wd_704 wd_705 wd_706 wd_37 wd_707) rfl rfl rfl (by decide +kernel) ⟨Nat.le_of_ble_eq_true rfl, Nat.le_of_ble_eq_true rfl⟩) (zp_preV (q0 := 3) (q := (RMD, TMD, 26)) hK hP rfl rfl [3, 4, 5] rfl [0, 1] rfl z_true (fun _ _ _ => trivial)) rfl rfl hl.1 rfl (lv_room (Nat.le_of_ble_eq_true rfl)) dLW_law_338 ⟨Nat.le_of_ble_eq_true rfl, Nat.le_of_ble_eq_true rfl⟩) (fun r91 h_r91 => ?_)
    have h_r91 : r91 = 0 := h_r91
    subst h_r91
    refine lv_icmp_eq (tgt := 615) hx hb dLW_law_341 rfl (fun _ => ?_) (fun h => absurd (by decide) h)
    exact BACK H locs ls (lv_sub hl [0, 3] rfl) hS
  · refine lv_tableIn (off := 313) (tgt := 346) hx hb dLW_law_33 (by decide) (by decide) (by decide) rfl ?_
    refine lv_aload_n hx hb dLW_law_346 rfl (lv_at hl 2 rfl) ?_
    refine lv_aload_n hx hb dLW_law_347 rfl (lv_at hl 3 rfl) ?_
    refine lv_iload_n hx hb dLW_law_348 rfl (lv_at hl 0 rfl) ?_
    refine lv_iconst (v := 1) hx hb dLW_law_349 (by decide) ?_
    refine lv_iadd hx hb dLW_law_350 ?_
    refine lv_topi (fun x92 e93 => ?_)
    have e93 : x92 = 1 := e93.trans (by decide)
    subst e93
    refine va_sld hx hb hXs hbl hAb hS (by unfold vp_in; decide) dLW_law_351 ?_
    refine lv_topi (fun z94 e_z94 => ?_)
    refine lv_aload_n hx hb dLW_law_352 rfl (lv_at hl 3 rfl) ?_
    refine lv_iload_n hx hb dLW_law_353 rfl (lv_at hl 0 rfl) ?_
    refine lv_iconst (v := 2) hx hb dLW_law_354 (by decide) ?_
    refine lv_iadd hx hb dLW_law_355 ?_
    refine lv_topi (fun x95 e96 => ?_)
    have e96 : x95 = 2 := e96.trans (by decide)
    subst e96
    refine va_sld hx hb hXs hbl hAb hS (by unfold vp_in; decide) dLW_law_356 ?_
    refine lv_topi (fun z97 e_z97 => ?_)
    refine vp_callSi (W.runV (As := [.int z94, .int z97]) (rest := []) ⟨hx, hb, hml, hown, hz⟩ (c_SC_slot l dC dI q1 g wd hh al t 0 z94 z97 ) (cwV 2 hz (z_gV wd_403 wd_404 wd_405 wd_29 wd_406) rfl rfl rfl (by decide +kernel) ⟨Nat.le_of_ble_eq_true rfl, Nat.le_of_ble_eq_true rfl⟩) (zp_preV (q0 := 0) (q := (RSC, TSC, 6)) hK hP rfl rfl [0, 1, 2] rfl [] rfl z_true (fun _ _ _ => trivial)) rfl rfl hl.1 rfl (lv_room (Nat.le_of_ble_eq_true rfl)) dLW_law_357 ⟨Nat.le_of_ble_eq_true rfl, Nat.le_of_ble_eq_true rfl⟩) (fun r98 h_r98 => ?_)
    have h_r98 : r98 = (-1) := h_r98
    subst h_r98
    refine lv_aload_n hx hb dLW_law_360 rfl (lv_at hl 1 rfl) ?_
    refine lv_aload_n hx hb dLW_law_361 rfl (lv_at hl 3 rfl) ?_
    refine lv_iload_n hx hb dLW_law_362 rfl (lv_at hl 0 rfl) ?_
    refine lv_iconst (v := 1) hx hb dLW_law_363 (by decide) ?_
    refine lv_iadd hx hb dLW_law_364 ?_
    refine lv_topi (fun x99 e100 => ?_)
    have e100 : x99 = 1 := e100.trans (by decide)
    subst e100
    refine va_sld hx hb hXs hbl hAb hS (by unfold vp_in; decide) dLW_law_365 ?_
    refine lv_topi (fun z101 e_z101 => ?_)
    refine lv_aload_n hx hb dLW_law_366 rfl (lv_at hl 3 rfl) ?_
    refine lv_iload_n hx hb dLW_law_367 rfl (lv_at hl 0 rfl) ?_
    refine lv_iconst (v := 2) hx hb dLW_law_368 (by decide) ?_
    refine lv_iadd hx hb dLW_law_369 ?_
    refine lv_topi (fun x102 e103 => ?_)
    have e103 : x102 = 2 := e103.trans (by decide)
    subst e103
    refine va_sld hx hb hXs hbl hAb hS (by unfold vp_in; decide) dLW_law_370 ?_
    refine lv_topi (fun z104 e_z104 => ?_)
    refine vp_callSi (W.runV (As := [.int z101, .int z104]) (rest := [.int (-1)]) ⟨hx, hb, hml, hown, hz⟩ (c_MD_slot l dC dI q3 b0 b1 b2 b3 b4 b5 b6 b7 b8 b9 b10 b11 b12 b13 b14 b15 b16 b17 z101 z104 ) (cwV 2 hz (z_gV wd_708 wd_709 wd_710 wd_37 wd_711) rfl rfl rfl (by decide +kernel) ⟨Nat.le_of_ble_eq_true rfl, Nat.le_of_ble_eq_true rfl⟩) (zp_preV (q0 := 3) (q := (RMD, TMD, 26)) hK hP rfl rfl [3] rfl [] rfl z_true (fun _ _ _ => trivial)) rfl rfl hl.1 rfl (lv_room (Nat.le_of_ble_eq_true rfl)) dLW_law_371 ⟨Nat.le_of_ble_eq_true rfl, Nat.le_of_ble_eq_true rfl⟩) (fun r105 h_r105 => ?_)
    have h_r105 : r105 = (-1) := h_r105
    subst h_r105
    refine lv_icmp_eq (tgt := 615) hx hb dLW_law_374 rfl (fun _ => ?_) (fun h => absurd (by decide) h)
    exact BACK H locs ls (lv_sub hl [0, 3] rfl) hS
  · refine lv_tableIn (off := 346) (tgt := 379) hx hb dLW_law_33 (by decide) (by decide) (by decide) rfl ?_
    refine lv_aload_n hx hb dLW_law_379 rfl (lv_at hl 2 rfl) ?_
    refine vp_callSi (W.runV (As := []) (rest := []) ⟨hx, hb, hml, hown, hz⟩ (c_SC_overlaps l dC dI q1 g wd hh al t 0 ) (cwV 0 hz (z_gV wd_408 wd_409 wd_410 wd_29 wd_411) rfl rfl rfl (by decide +kernel) ⟨Nat.le_of_ble_eq_true rfl, Nat.le_of_ble_eq_true rfl⟩) (zp_preV (q0 := 0) (q := (RSC, TSC, 6)) hK hP rfl rfl [0, 1, 2] rfl [] rfl z_true (fun _ _ _ => trivial)) rfl rfl hl.1 rfl (lv_room (Nat.le_of_ble_eq_true rfl)) dLW_law_380 ⟨Nat.le_of_ble_eq_true rfl, Nat.le_of_ble_eq_true rfl⟩) (fun r106 h_r106 => ?_)
    have h_r106 : r106 = 0 := h_r106
    subst h_r106
    refine lv_aload_n hx hb dLW_law_383 rfl (lv_at hl 1 rfl) ?_
    refine vp_callSi (W.runV (As := []) (rest := [.int 0]) ⟨hx, hb, hml, hown, hz⟩ (c_MD_overlaps l dC dI q3 b0 b1 b2 b3 b4 b5 b6 b7 b8 b9 b10 b11 b12 b13 b14 b15 b16 b17 ) (cwV 0 hz (z_gV wd_720 wd_721 wd_722 wd_37 wd_723) rfl rfl rfl (by decide +kernel) ⟨Nat.le_of_ble_eq_true rfl, Nat.le_of_ble_eq_true rfl⟩) (zp_preV (q0 := 3) (q := (RMD, TMD, 26)) hK hP rfl rfl [3] rfl [] rfl z_true (fun _ _ _ => trivial)) rfl rfl hl.1 rfl (lv_room (Nat.le_of_ble_eq_true rfl)) dLW_law_384 ⟨Nat.le_of_ble_eq_true rfl, Nat.le_of_ble_eq_true rfl⟩) (fun r107 h_r107 => ?_)
    have h_r107 : r107 = 0 := h_r107
    subst h_r107
    refine lv_icmp_eq (tgt := 615) hx hb dLW_law_387 rfl (fun _ => ?_) (fun h => absurd (by decide) h)
    exact BACK H locs ls (lv_sub hl [0, 3] rfl) hS
  · refine lv_tableIn (off := 359) (tgt := 392) hx hb dLW_law_33 (by decide) (by decide) (by decide) rfl ?_
    refine lv_aload_n hx hb dLW_law_392 rfl (lv_at hl 2 rfl) ?_
    refine vp_callSi (W.runV (As := []) (rest := []) ⟨hx, hb, hml, hown, hz⟩ (c_SC_empties l dC dI q1 g wd hh al t 0 ) (cwV 0 hz (z_gV wd_420 wd_421 wd_422 wd_29 wd_423) rfl rfl rfl (by decide +kernel) ⟨Nat.le_of_ble_eq_true rfl, Nat.le_of_ble_eq_true rfl⟩) (zp_preV (q0 := 0) (q := (RSC, TSC, 6)) hK hP rfl rfl [0, 1, 2] rfl [] rfl z_true (fun _ _ _ => trivial)) rfl rfl hl.1 rfl (lv_room (Nat.le_of_ble_eq_true rfl)) dLW_law_393 ⟨Nat.le_of_ble_eq_true rfl, Nat.le_of_ble_eq_true rfl⟩) (fun r108 h_r108 => ?_)
    have h_r108 : r108 = 0 := h_r108
    subst h_r108
    refine lv_aload_n hx hb dLW_law_396 rfl (lv_at hl 1 rfl) ?_
    refine vp_callSi (W.runV (As := []) (rest := [.int 0]) ⟨hx, hb, hml, hown, hz⟩ (c_MD_empties l dC dI q3 b0 b1 b2 b3 b4 b5 b6 b7 b8 b9 b10 b11 b12 b13 b14 b15 b16 b17 kb0 kb1 ) (cwV 0 hz (z_gV wd_728 wd_729 wd_730 wd_37 wd_731) rfl rfl rfl (by decide +kernel) ⟨Nat.le_of_ble_eq_true rfl, Nat.le_of_ble_eq_true rfl⟩) (zp_preV (q0 := 3) (q := (RMD, TMD, 26)) hK hP rfl rfl [3, 4, 5] rfl [0, 1] rfl z_true (fun _ _ _ => trivial)) rfl rfl hl.1 rfl (lv_room (Nat.le_of_ble_eq_true rfl)) dLW_law_397 ⟨Nat.le_of_ble_eq_true rfl, Nat.le_of_ble_eq_true rfl⟩) (fun r109 h_r109 => ?_)
    have h_r109 : r109 = 0 := h_r109
    subst h_r109
    refine lv_icmp_eq (tgt := 615) hx hb dLW_law_400 rfl (fun _ => ?_) (fun h => absurd (by decide) h)
    exact BACK H locs ls (lv_sub hl [0, 3] rfl) hS
  · refine lv_tableIn (off := 372) (tgt := 405) hx hb dLW_law_33 (by decide) (by decide) (by decide) rfl ?_
    refine lv_aload_n hx hb dLW_law_405 rfl (lv_at hl 2 rfl) ?_
    refine lv_aload_n hx hb dLW_law_406 rfl (lv_at hl 3 rfl) ?_
    refine lv_iload_n hx hb dLW_law_407 rfl (lv_at hl 0 rfl) ?_
    refine lv_iconst (v := 1) hx hb dLW_law_408 (by decide) ?_
    refine lv_iadd hx hb dLW_law_409 ?_
    refine lv_topi (fun x110 e111 => ?_)
    have e111 : x110 = 1 := e111.trans (by decide)
    subst e111
    refine va_sld hx hb hXs hbl hAb hS (by unfold vp_in; decide) dLW_law_410 ?_
    refine lv_topi (fun z112 e_z112 => ?_)
    refine vp_callSi (W.runV (As := [.int z112]) (rest := []) ⟨hx, hb, hml, hown, hz⟩ (c_SC_span l dC dI q1 g wd hh al t 0 z112 ) (cwV 1 hz (z_gV wd_440 wd_441 wd_442 wd_29 wd_443) rfl rfl rfl (by decide +kernel) ⟨Nat.le_of_ble_eq_true rfl, Nat.le_of_ble_eq_true rfl⟩) (zp_preV (q0 := 0) (q := (RSC, TSC, 6)) hK hP rfl rfl [0, 1, 2] rfl [] rfl z_true (fun _ _ _ => trivial)) rfl rfl hl.1 rfl (lv_room (Nat.le_of_ble_eq_true rfl)) dLW_law_411 ⟨Nat.le_of_ble_eq_true rfl, Nat.le_of_ble_eq_true rfl⟩) (fun r113 h_r113 => ?_)
    have h_r113 : r113 = (-1) := h_r113
    subst h_r113
    refine lv_aload_n hx hb dLW_law_414 rfl (lv_at hl 1 rfl) ?_
    refine lv_aload_n hx hb dLW_law_415 rfl (lv_at hl 3 rfl) ?_
    refine lv_iload_n hx hb dLW_law_416 rfl (lv_at hl 0 rfl) ?_
    refine lv_iconst (v := 1) hx hb dLW_law_417 (by decide) ?_
    refine lv_iadd hx hb dLW_law_418 ?_
    refine lv_topi (fun x114 e115 => ?_)
    have e115 : x114 = 1 := e115.trans (by decide)
    subst e115
    refine va_sld hx hb hXs hbl hAb hS (by unfold vp_in; decide) dLW_law_419 ?_
    refine lv_topi (fun z116 e_z116 => ?_)
    refine vp_callSi (W.runV (As := [.int z116]) (rest := [.int (-1)]) ⟨hx, hb, hml, hown, hz⟩ (c_MD_span l dC dI q3 b0 b1 b2 b3 b4 b5 b6 b7 b8 b9 b10 b11 b12 b13 b14 b15 b16 b17 z116 ) (cwV 1 hz (z_gV wd_734 wd_735 wd_736 wd_37 wd_737) rfl rfl rfl (by decide +kernel) ⟨Nat.le_of_ble_eq_true rfl, Nat.le_of_ble_eq_true rfl⟩) (zp_preV (q0 := 3) (q := (RMD, TMD, 26)) hK hP rfl rfl [3] rfl [] rfl z_true (fun _ _ _ => trivial)) rfl rfl hl.1 rfl (lv_room (Nat.le_of_ble_eq_true rfl)) dLW_law_420 ⟨Nat.le_of_ble_eq_true rfl, Nat.le_of_ble_eq_true rfl⟩) (fun r117 h_r117 => ?_)
    have h_r117 : r117 = (-1) := h_r117
    subst h_r117
    refine lv_icmp_eq (tgt := 615) hx hb dLW_law_423 rfl (fun _ => ?_) (fun h => absurd (by decide) h)
    exact BACK H locs ls (lv_sub hl [0, 3] rfl) hS
  · refine lv_tableIn (off := 395) (tgt := 428) hx hb dLW_law_33 (by decide) (by decide) (by decide) rfl ?_
    refine lv_aload_n hx hb dLW_law_428 rfl (lv_at hl 2 rfl) ?_
    refine lv_aload_n hx hb dLW_law_429 rfl (lv_at hl 3 rfl) ?_
    refine lv_iload_n hx hb dLW_law_430 rfl (lv_at hl 0 rfl) ?_
    refine lv_iconst (v := 1) hx hb dLW_law_431 (by decide) ?_
    refine lv_iadd hx hb dLW_law_432 ?_
    refine lv_topi (fun x118 e119 => ?_)
    have e119 : x118 = 1 := e119.trans (by decide)
    subst e119
    refine va_sld hx hb hXs hbl hAb hS (by unfold vp_in; decide) dLW_law_433 ?_
    refine lv_topi (fun z120 e_z120 => ?_)
    refine lv_aload_n hx hb dLW_law_434 rfl (lv_at hl 3 rfl) ?_
    refine lv_iload_n hx hb dLW_law_435 rfl (lv_at hl 0 rfl) ?_
    refine lv_iconst (v := 2) hx hb dLW_law_436 (by decide) ?_
    refine lv_iadd hx hb dLW_law_437 ?_
    refine lv_topi (fun x121 e122 => ?_)
    have e122 : x121 = 2 := e122.trans (by decide)
    subst e122
    refine va_sld hx hb hXs hbl hAb hS (by unfold vp_in; decide) dLW_law_438 ?_
    refine lv_topi (fun z123 e_z123 => ?_)
    refine vp_callSi (W.runV (As := [.int z120, .int z123]) (rest := []) ⟨hx, hb, hml, hown, hz⟩ (c_SC_wide l dC dI q1 g wd hh al t 0 z120 z123 ) (cwV 2 hz (z_gV wd_445 wd_446 wd_447 wd_29 wd_448) rfl rfl rfl (by decide +kernel) ⟨Nat.le_of_ble_eq_true rfl, Nat.le_of_ble_eq_true rfl⟩) (zp_preV (q0 := 0) (q := (RSC, TSC, 6)) hK hP rfl rfl [0, 1, 2] rfl [] rfl z_true (fun _ _ _ => trivial)) rfl rfl hl.1 rfl (lv_room (Nat.le_of_ble_eq_true rfl)) dLW_law_439 ⟨Nat.le_of_ble_eq_true rfl, Nat.le_of_ble_eq_true rfl⟩) (fun r124 h_r124 => ?_)
    have h_r124 : r124 = (-1) := h_r124
    subst h_r124
    refine lv_aload_n hx hb dLW_law_442 rfl (lv_at hl 1 rfl) ?_
    refine lv_aload_n hx hb dLW_law_443 rfl (lv_at hl 3 rfl) ?_
    refine lv_iload_n hx hb dLW_law_444 rfl (lv_at hl 0 rfl) ?_
    refine lv_iconst (v := 1) hx hb dLW_law_445 (by decide) ?_
    refine lv_iadd hx hb dLW_law_446 ?_
    refine lv_topi (fun x125 e126 => ?_)
    have e126 : x125 = 1 := e126.trans (by decide)
    subst e126
    refine va_sld hx hb hXs hbl hAb hS (by unfold vp_in; decide) dLW_law_447 ?_
    refine lv_topi (fun z127 e_z127 => ?_)
    refine lv_aload_n hx hb dLW_law_448 rfl (lv_at hl 3 rfl) ?_
    refine lv_iload_n hx hb dLW_law_449 rfl (lv_at hl 0 rfl) ?_
    refine lv_iconst (v := 2) hx hb dLW_law_450 (by decide) ?_
    refine lv_iadd hx hb dLW_law_451 ?_
    refine lv_topi (fun x128 e129 => ?_)
    have e129 : x128 = 2 := e129.trans (by decide)
    subst e129
    refine va_sld hx hb hXs hbl hAb hS (by unfold vp_in; decide) dLW_law_452 ?_
    refine lv_topi (fun z130 e_z130 => ?_)
    refine vp_callSi (W.runV (As := [.int z127, .int z130]) (rest := [.int (-1)]) ⟨hx, hb, hml, hown, hz⟩ (c_MD_wide l dC dI q3 b0 b1 b2 b3 b4 b5 b6 b7 b8 b9 b10 b11 b12 b13 b14 b15 b16 b17 z127 z130 ) (cwV 2 hz (z_gV wd_739 wd_740 wd_741 wd_37 wd_742) rfl rfl rfl (by decide +kernel) ⟨Nat.le_of_ble_eq_true rfl, Nat.le_of_ble_eq_true rfl⟩) (zp_preV (q0 := 3) (q := (RMD, TMD, 26)) hK hP rfl rfl [3] rfl [] rfl z_true (fun _ _ _ => trivial)) rfl rfl hl.1 rfl (lv_room (Nat.le_of_ble_eq_true rfl)) dLW_law_453 ⟨Nat.le_of_ble_eq_true rfl, Nat.le_of_ble_eq_true rfl⟩) (fun r131 h_r131 => ?_)
    have h_r131 : r131 = (-1) := h_r131
    subst h_r131
    refine lv_icmp_eq (tgt := 615) hx hb dLW_law_456 rfl (fun _ => ?_) (fun h => absurd (by decide) h)
    exact BACK H locs ls (lv_sub hl [0, 3] rfl) hS
  · refine lv_tableIn (off := 428) (tgt := 461) hx hb dLW_law_33 (by decide) (by decide) (by decide) rfl ?_
    refine lv_aload_n hx hb dLW_law_461 rfl (lv_at hl 2 rfl) ?_
    refine lv_aload_n hx hb dLW_law_462 rfl (lv_at hl 3 rfl) ?_
    refine lv_iload_n hx hb dLW_law_463 rfl (lv_at hl 0 rfl) ?_
    refine lv_iconst (v := 1) hx hb dLW_law_464 (by decide) ?_
    refine lv_iadd hx hb dLW_law_465 ?_
    refine lv_topi (fun x132 e133 => ?_)
    have e133 : x132 = 1 := e133.trans (by decide)
    subst e133
    refine va_sld hx hb hXs hbl hAb hS (by unfold vp_in; decide) dLW_law_466 ?_
    refine lv_topi (fun z134 e_z134 => ?_)
    refine vp_callSi (W.runV (As := [.int z134]) (rest := []) ⟨hx, hb, hml, hown, hz⟩ (c_SC_high l dC dI q1 g wd hh al t 0 z134 ) (cwV 1 hz (z_gV wd_527 wd_528 wd_529 wd_29 wd_530) rfl rfl rfl (by decide +kernel) ⟨Nat.le_of_ble_eq_true rfl, Nat.le_of_ble_eq_true rfl⟩) (zp_preV (q0 := 0) (q := (RSC, TSC, 6)) hK hP rfl rfl [0, 1, 2] rfl [] rfl z_true (fun _ _ _ => trivial)) rfl rfl hl.1 rfl (lv_room (Nat.le_of_ble_eq_true rfl)) dLW_law_467 ⟨Nat.le_of_ble_eq_true rfl, Nat.le_of_ble_eq_true rfl⟩) (fun r135 h_r135 => ?_)
    have h_r135 : r135 = (-1) := h_r135
    subst h_r135
    refine lv_aload_n hx hb dLW_law_470 rfl (lv_at hl 1 rfl) ?_
    refine lv_aload_n hx hb dLW_law_471 rfl (lv_at hl 3 rfl) ?_
    refine lv_iload_n hx hb dLW_law_472 rfl (lv_at hl 0 rfl) ?_
    refine lv_iconst (v := 1) hx hb dLW_law_473 (by decide) ?_
    refine lv_iadd hx hb dLW_law_474 ?_
    refine lv_topi (fun x136 e137 => ?_)
    have e137 : x136 = 1 := e137.trans (by decide)
    subst e137
    refine va_sld hx hb hXs hbl hAb hS (by unfold vp_in; decide) dLW_law_475 ?_
    refine lv_topi (fun z138 e_z138 => ?_)
    refine vp_callSi (W.runV (As := [.int z138]) (rest := [.int (-1)]) ⟨hx, hb, hml, hown, hz⟩ (c_MD_high l dC dI q3 b0 b1 b2 b3 b4 b5 b6 b7 b8 b9 b10 b11 b12 b13 b14 b15 b16 b17 kb0 kb1 z138 ) (cwV 1 hz (z_gV wd_777 wd_778 wd_779 wd_37 wd_780) rfl rfl rfl (by decide +kernel) ⟨Nat.le_of_ble_eq_true rfl, Nat.le_of_ble_eq_true rfl⟩) (zp_preV (q0 := 3) (q := (RMD, TMD, 26)) hK hP rfl rfl [3, 4, 5] rfl [0, 1] rfl z_true (fun _ _ _ => trivial)) rfl rfl hl.1 rfl (lv_room (Nat.le_of_ble_eq_true rfl)) dLW_law_476 ⟨Nat.le_of_ble_eq_true rfl, Nat.le_of_ble_eq_true rfl⟩) (fun r139 h_r139 => ?_)
    have h_r139 : r139 = (-1) := h_r139
    subst h_r139
    refine lv_icmp_eq (tgt := 615) hx hb dLW_law_479 rfl (fun _ => ?_) (fun h => absurd (by decide) h)
    exact BACK H locs ls (lv_sub hl [0, 3] rfl) hS
  · refine lv_tableIn (off := 451) (tgt := 484) hx hb dLW_law_33 (by decide) (by decide) (by decide) rfl ?_
    refine lv_aload_n hx hb dLW_law_484 rfl (lv_at hl 2 rfl) ?_
    refine lv_aload_n hx hb dLW_law_485 rfl (lv_at hl 3 rfl) ?_
    refine lv_iload_n hx hb dLW_law_486 rfl (lv_at hl 0 rfl) ?_
    refine lv_iconst (v := 1) hx hb dLW_law_487 (by decide) ?_
    refine lv_iadd hx hb dLW_law_488 ?_
    refine lv_topi (fun x140 e141 => ?_)
    have e141 : x140 = 1 := e141.trans (by decide)
    subst e141
    refine va_sld hx hb hXs hbl hAb hS (by unfold vp_in; decide) dLW_law_489 ?_
    refine lv_topi (fun z142 e_z142 => ?_)
    refine lv_aload_n hx hb dLW_law_490 rfl (lv_at hl 3 rfl) ?_
    refine lv_iload_n hx hb dLW_law_491 rfl (lv_at hl 0 rfl) ?_
    refine lv_iconst (v := 2) hx hb dLW_law_492 (by decide) ?_
    refine lv_iadd hx hb dLW_law_493 ?_
    refine lv_topi (fun x143 e144 => ?_)
    have e144 : x143 = 2 := e144.trans (by decide)
    subst e144
    refine va_sld hx hb hXs hbl hAb hS (by unfold vp_in; decide) dLW_law_494 ?_
    refine lv_topi (fun z145 e_z145 => ?_)
    refine vp_callSi (W.runV (As := [.int z142, .int z145]) (rest := []) ⟨hx, hb, hml, hown, hz⟩ (c_SC_place l dC dI q1 g wd hh al t 0 z142 z145 ) (cwV 2 hz (z_gV wd_544 wd_545 wd_546 wd_29 wd_547) rfl rfl rfl (by decide +kernel) ⟨Nat.le_of_ble_eq_true rfl, Nat.le_of_ble_eq_true rfl⟩) (zp_preV (q0 := 0) (q := (RSC, TSC, 6)) hK hP rfl rfl [0, 1, 2] rfl [] rfl z_true (fun _ _ _ => trivial)) rfl rfl hl.1 rfl (lv_room (Nat.le_of_ble_eq_true rfl)) dLW_law_495 ⟨Nat.le_of_ble_eq_true rfl, Nat.le_of_ble_eq_true rfl⟩) (fun r146 h_r146 => ?_)
    have h_r146 : r146 = (-1) := h_r146
    subst h_r146
    refine lv_aload_n hx hb dLW_law_498 rfl (lv_at hl 1 rfl) ?_
    refine lv_aload_n hx hb dLW_law_499 rfl (lv_at hl 3 rfl) ?_
    refine lv_iload_n hx hb dLW_law_500 rfl (lv_at hl 0 rfl) ?_
    refine lv_iconst (v := 1) hx hb dLW_law_501 (by decide) ?_
    refine lv_iadd hx hb dLW_law_502 ?_
    refine lv_topi (fun x147 e148 => ?_)
    have e148 : x147 = 1 := e148.trans (by decide)
    subst e148
    refine va_sld hx hb hXs hbl hAb hS (by unfold vp_in; decide) dLW_law_503 ?_
    refine lv_topi (fun z149 e_z149 => ?_)
    refine lv_aload_n hx hb dLW_law_504 rfl (lv_at hl 3 rfl) ?_
    refine lv_iload_n hx hb dLW_law_505 rfl (lv_at hl 0 rfl) ?_
    refine lv_iconst (v := 2) hx hb dLW_law_506 (by decide) ?_
    refine lv_iadd hx hb dLW_law_507 ?_
    refine lv_topi (fun x150 e151 => ?_)
    have e151 : x150 = 2 := e151.trans (by decide)
    subst e151
    refine va_sld hx hb hXs hbl hAb hS (by unfold vp_in; decide) dLW_law_508 ?_
    refine lv_topi (fun z152 e_z152 => ?_)
    refine vp_callSi (W.runV (As := [.int z149, .int z152]) (rest := [.int (-1)]) ⟨hx, hb, hml, hown, hz⟩ (c_MD_place l dC dI q3 b0 b1 b2 b3 b4 b5 b6 b7 b8 b9 b10 b11 b12 b13 b14 b15 b16 b17 z149 z152 ) (cwV 2 hz (z_gV wd_785 wd_786 wd_787 wd_37 wd_788) rfl rfl rfl (by decide +kernel) ⟨Nat.le_of_ble_eq_true rfl, Nat.le_of_ble_eq_true rfl⟩) (zp_preV (q0 := 3) (q := (RMD, TMD, 26)) hK hP rfl rfl [3] rfl [] rfl z_true (fun _ _ _ => trivial)) rfl rfl hl.1 rfl (lv_room (Nat.le_of_ble_eq_true rfl)) dLW_law_509 ⟨Nat.le_of_ble_eq_true rfl, Nat.le_of_ble_eq_true rfl⟩) (fun r153 h_r153 => ?_)
    have h_r153 : r153 = (-1) := h_r153
    subst h_r153
    refine lv_icmp_eq (tgt := 615) hx hb dLW_law_512 rfl (fun _ => ?_) (fun h => absurd (by decide) h)
    exact BACK H locs ls (lv_sub hl [0, 3] rfl) hS
  · refine lv_tableIn (off := 484) (tgt := 517) hx hb dLW_law_33 (by decide) (by decide) (by decide) rfl ?_
    refine lv_aload_n hx hb dLW_law_517 rfl (lv_at hl 2 rfl) ?_
    refine lv_aload_n hx hb dLW_law_518 rfl (lv_at hl 3 rfl) ?_
    refine lv_iload_n hx hb dLW_law_519 rfl (lv_at hl 0 rfl) ?_
    refine lv_iconst (v := 1) hx hb dLW_law_520 (by decide) ?_
    refine lv_iadd hx hb dLW_law_521 ?_
    refine lv_topi (fun x154 e155 => ?_)
    have e155 : x154 = 1 := e155.trans (by decide)
    subst e155
    refine va_sld hx hb hXs hbl hAb hS (by unfold vp_in; decide) dLW_law_522 ?_
    refine lv_topi (fun z156 e_z156 => ?_)
    refine z_join (fun v523 : Int32 => v523 = 0 ∨ v523 = 1) (fun v523 => W p l e (room_1) s m #[Value.ref b] below meth c H locs 35 604 Q (F0 m 531 ls (.int v523 :: [.ref q1]))) (fun v523 hv523 => ?_) (fun J531 => ?_)
    · refine vp_callSi (W.runV (As := [.int v523]) (rest := []) ⟨hx, hb, hml, hown, hz⟩ (c_SC_size l dC dI q1 g wd hh al t 0 v523 ) (cwV 1 hz (z_gV wd_555 wd_556 wd_557 wd_29 wd_558) rfl rfl rfl (by decide +kernel) ⟨Nat.le_of_ble_eq_true rfl, Nat.le_of_ble_eq_true rfl⟩) (zp_preV (q0 := 0) (q := (RSC, TSC, 6)) hK hP rfl rfl [0, 1, 2] rfl [] rfl z_true (fun _ _ _ => trivial)) rfl rfl hl.1 rfl (lv_room (Nat.le_of_ble_eq_true rfl)) dLW_law_531 ⟨Nat.le_of_ble_eq_true rfl, Nat.le_of_ble_eq_true rfl⟩) (fun r157 h_r157 => ?_)
      have h_r157 : r157 = 0 := h_r157
      subst h_r157
      refine lv_aload_n hx hb dLW_law_534 rfl (lv_at hl 1 rfl) ?_
      refine lv_aload_n hx hb dLW_law_535 rfl (lv_at hl 3 rfl) ?_
      refine lv_iload_n hx hb dLW_law_536 rfl (lv_at hl 0 rfl) ?_
      refine lv_iconst (v := 1) hx hb dLW_law_537 (by decide) ?_
      refine lv_iadd hx hb dLW_law_538 ?_
      refine lv_topi (fun x158 e159 => ?_)
      have e159 : x158 = 1 := e159.trans (by decide)
      subst e159
      refine va_sld hx hb hXs hbl hAb hS (by unfold vp_in; decide) dLW_law_539 ?_
      refine lv_topi (fun z160 e_z160 => ?_)
      refine z_join (fun v540 : Int32 => v540 = 0 ∨ v540 = 1) (fun v540 => W p l e (room_1) s m #[Value.ref b] below meth c H locs 35 604 Q (F0 m 548 ls (.int v540 :: [.ref q3, .int 0]))) (fun v540 hv540 => ?_) (fun J548 => ?_)
      · refine zw_calli (wr := [(q1, .inr (0, [.ref g, .ref wd, .ref hh, .int 0, .int 0, .int 0])), (g, .inr (1, [.ref al, .int 1, .int 0, .int 0, .int 0, .int 0])), (al, .inr (2, [.ref t, .int 0, .int 0]))]) hK hP hD hS hA [3, 4, 5, 6, 7, 8, 9, 10] [0, 1, 2] rfl rfl (by decide) (by decide) (va_runV (As := [.int v540]) (rest := [.int 0]) ⟨hx, hb, hml, hown, hz⟩ ((c_MD_size l dC dI q3 b0 b1 b2 b3 b4 b5 b6 b7 b8 b9 b10 b11 b12 b13 b14 b15 b16 b17 kb0 kb1 kb12 kb13 kb14 kb17 kb15 (fun _ => 0) (fun _ => 0) (fun _ => 0) (fun _ => 0) (fun _ => 0) v540 ) H.size) (cwV 1 hz (z_gV wd_789 wd_790 wd_791 wd_37 wd_792) rfl rfl rfl (by decide +kernel) ⟨Nat.le_of_ble_eq_true rfl, Nat.le_of_ble_eq_true rfl⟩) (zw_preV (q0 := 3) (q := (RMD, TMD, 26)) hK hP hD rfl rfl [3, 4, 5, 6, 7, 8, 9, 10] (by decide) rfl [0, 1, 2, 3, 4, 5, 6] rfl z_true (fun _ _ _ => trivial)) rfl rfl hl.1 rfl (lv_room (Nat.le_of_ble_eq_true rfl)) dLW_law_548 ⟨Nat.le_of_ble_eq_true rfl, Nat.le_of_ble_eq_true rfl⟩) (fun r161 u H locs h_r161 hP hD hK hS => ?_)
        have hP : va_P (dC, dI) vwCl [(q1, .inr (0, [.ref g, .ref wd, .ref hh, .int 0, .int 0, .int 0])), (g, .inr (1, [.ref al, .int 1, .int 0, .int 0, .int 0, .int 0])), (al, .inr (2, [.ref t, .int 0, .int 0]))] H := hP.sub [0, 1, 2] rfl
        have hD : va_D A [(q1, .inr (0, [.ref g, .ref wd, .ref hh, .int 0, .int 0, .int 0])), (g, .inr (1, [.ref al, .int 1, .int 0, .int 0, .int 0, .int 0])), (al, .inr (2, [.ref t, .int 0, .int 0]))] := hD.sub [0, 1, 2] (by decide) rfl
        have hK : va_K (dC, dI) vwCl [(kb0, .int), (kb1, .int), (kb12, .int), (kb13, .int), (kb14, .int), (kb17, .int), (kb15, .int)] s := hK
        have h_r161 : r161 = 0 := h_r161
        subst h_r161
        refine lv_icmp_eq (tgt := 615) hx hb dLW_law_551 rfl (fun _ => ?_) (fun h => absurd (by decide) h)
        exact BACK H locs ls (lv_sub hl [0, 3] rfl) hS
      · refine lv_if_eq (tgt := 547) hx hb dLW_law_540 rfl (fun h162 => ?_) (fun h162 => ?_)
        · refine lv_iconst (v := 0) hx hb dLW_law_547 (by decide) ?_
          exact J548 _ (Or.inl rfl)
        · refine lv_iconst (v := 1) hx hb dLW_law_543 (by decide) ?_
          refine lv_goto (tgt := 548) hx hb dLW_law_544 rfl ?_
          exact J548 _ (Or.inr rfl)
    · refine lv_if_eq (tgt := 530) hx hb dLW_law_523 rfl (fun h163 => ?_) (fun h163 => ?_)
      · refine lv_iconst (v := 0) hx hb dLW_law_530 (by decide) ?_
        exact J531 _ (Or.inl rfl)
      · refine lv_iconst (v := 1) hx hb dLW_law_526 (by decide) ?_
        refine lv_goto (tgt := 531) hx hb dLW_law_527 rfl ?_
        exact J531 _ (Or.inr rfl)
  · refine lv_tableIn (off := 523) (tgt := 556) hx hb dLW_law_33 (by decide) (by decide) (by decide) rfl ?_
    refine lv_aload_n hx hb dLW_law_556 rfl (lv_at hl 2 rfl) ?_
    refine lv_aload_n hx hb dLW_law_557 rfl (lv_at hl 3 rfl) ?_
    refine lv_iload_n hx hb dLW_law_558 rfl (lv_at hl 0 rfl) ?_
    refine lv_iconst (v := 1) hx hb dLW_law_559 (by decide) ?_
    refine lv_iadd hx hb dLW_law_560 ?_
    refine lv_topi (fun x164 e165 => ?_)
    have e165 : x164 = 1 := e165.trans (by decide)
    subst e165
    refine va_sld hx hb hXs hbl hAb hS (by unfold vp_in; decide) dLW_law_561 ?_
    refine lv_topi (fun z166 e_z166 => ?_)
    refine lv_aload_n hx hb dLW_law_562 rfl (lv_at hl 3 rfl) ?_
    refine lv_iload_n hx hb dLW_law_563 rfl (lv_at hl 0 rfl) ?_
    refine lv_iconst (v := 2) hx hb dLW_law_564 (by decide) ?_
    refine lv_iadd hx hb dLW_law_565 ?_
    refine lv_topi (fun x167 e168 => ?_)
    have e168 : x167 = 2 := e168.trans (by decide)
    subst e168
    refine va_sld hx hb hXs hbl hAb hS (by unfold vp_in; decide) dLW_law_566 ?_
    refine lv_topi (fun z169 e_z169 => ?_)
    refine lv_aload_n hx hb dLW_law_567 rfl (lv_at hl 3 rfl) ?_
    refine lv_iload_n hx hb dLW_law_568 rfl (lv_at hl 0 rfl) ?_
    refine lv_iconst (v := 3) hx hb dLW_law_569 (by decide) ?_
    refine lv_iadd hx hb dLW_law_570 ?_
    refine lv_topi (fun x170 e171 => ?_)
    have e171 : x170 = 3 := e171.trans (by decide)
    subst e171
    refine va_sld hx hb hXs hbl hAb hS (by unfold vp_in; decide) dLW_law_571 ?_
    refine lv_topi (fun z172 e_z172 => ?_)
    refine z_join (fun v572 : Int32 => v572 = 0 ∨ v572 = 1) (fun v572 => W p l e (room_1) s m #[Value.ref b] below meth c H locs 35 604 Q (F0 m 580 ls (.int v572 :: [.int z169, .int z166, .ref q1]))) (fun v572 hv572 => ?_) (fun J580 => ?_)
    · refine vp_callSi (W.runV (As := [.int z166, .int z169, .int v572]) (rest := []) ⟨hx, hb, hml, hown, hz⟩ (c_SC_edge l dC dI q1 g wd hh al t 0 z166 z169 v572 ) (cwV 3 hz (z_gV wd_559 wd_560 wd_561 wd_29 wd_562) rfl rfl rfl (by decide +kernel) ⟨Nat.le_of_ble_eq_true rfl, Nat.le_of_ble_eq_true rfl⟩) (zp_preV (q0 := 0) (q := (RSC, TSC, 6)) hK hP rfl rfl [0, 1, 2] rfl [] rfl zN_blind (zN_call hN)) rfl rfl hl.1 rfl (lv_room (Nat.le_of_ble_eq_true rfl)) dLW_law_580 ⟨Nat.le_of_ble_eq_true rfl, Nat.le_of_ble_eq_true rfl⟩) (fun r173 h_r173 => ?_)
      have h_r173 : r173 = (-1) := h_r173
      subst h_r173
      refine lv_aload_n hx hb dLW_law_583 rfl (lv_at hl 1 rfl) ?_
      refine lv_aload_n hx hb dLW_law_584 rfl (lv_at hl 3 rfl) ?_
      refine lv_iload_n hx hb dLW_law_585 rfl (lv_at hl 0 rfl) ?_
      refine lv_iconst (v := 1) hx hb dLW_law_586 (by decide) ?_
      refine lv_iadd hx hb dLW_law_587 ?_
      refine lv_topi (fun x174 e175 => ?_)
      have e175 : x174 = 1 := e175.trans (by decide)
      subst e175
      refine va_sld hx hb hXs hbl hAb hS (by unfold vp_in; decide) dLW_law_588 ?_
      refine lv_topi (fun z176 e_z176 => ?_)
      refine lv_aload_n hx hb dLW_law_589 rfl (lv_at hl 3 rfl) ?_
      refine lv_iload_n hx hb dLW_law_590 rfl (lv_at hl 0 rfl) ?_
      refine lv_iconst (v := 2) hx hb dLW_law_591 (by decide) ?_
      refine lv_iadd hx hb dLW_law_592 ?_
      refine lv_topi (fun x177 e178 => ?_)
      have e178 : x177 = 2 := e178.trans (by decide)
      subst e178
      refine va_sld hx hb hXs hbl hAb hS (by unfold vp_in; decide) dLW_law_593 ?_
      refine lv_topi (fun z179 e_z179 => ?_)
      refine lv_aload_n hx hb dLW_law_594 rfl (lv_at hl 3 rfl) ?_
      refine lv_iload_n hx hb dLW_law_595 rfl (lv_at hl 0 rfl) ?_
      refine lv_iconst (v := 3) hx hb dLW_law_596 (by decide) ?_
      refine lv_iadd hx hb dLW_law_597 ?_
      refine lv_topi (fun x180 e181 => ?_)
      have e181 : x180 = 3 := e181.trans (by decide)
      subst e181
      refine va_sld hx hb hXs hbl hAb hS (by unfold vp_in; decide) dLW_law_598 ?_
      refine lv_topi (fun z182 e_z182 => ?_)
      refine z_join (fun v599 : Int32 => v599 = 0 ∨ v599 = 1) (fun v599 => W p l e (room_1) s m #[Value.ref b] below meth c H locs 35 604 Q (F0 m 607 ls (.int v599 :: [.int z179, .int z176, .ref q3, .int (-1)]))) (fun v599 hv599 => ?_) (fun J607 => ?_)
      · refine vp_callSi (W.runV (As := [.int z176, .int z179, .int v599]) (rest := [.int (-1)]) ⟨hx, hb, hml, hown, hz⟩ (c_MD_edge l dC dI q3 b0 b1 b2 b3 b4 b5 b6 b7 b8 b9 b10 b11 b12 b13 b14 b15 b16 b17 kb0 kb1 z176 z179 v599 ) (cwV 3 hz (z_gV wd_793 wd_794 wd_795 wd_37 wd_796) rfl rfl rfl (by decide +kernel) ⟨Nat.le_of_ble_eq_true rfl, Nat.le_of_ble_eq_true rfl⟩) (zp_preV (q0 := 3) (q := (RMD, TMD, 26)) hK hP rfl rfl [3, 4, 5] rfl [0, 1] rfl z_true (fun _ _ _ => trivial)) rfl rfl hl.1 rfl (lv_room (Nat.le_of_ble_eq_true rfl)) dLW_law_607 ⟨Nat.le_of_ble_eq_true rfl, Nat.le_of_ble_eq_true rfl⟩) (fun r183 h_r183 => ?_)
        have h_r183 : r183 = (-1) := h_r183
        subst h_r183
        refine lv_icmp_eq (tgt := 615) hx hb dLW_law_610 rfl (fun _ => ?_) (fun h => absurd (by decide) h)
        exact BACK H locs ls (lv_sub hl [0, 3] rfl) hS
      · refine lv_if_eq (tgt := 606) hx hb dLW_law_599 rfl (fun h184 => ?_) (fun h184 => ?_)
        · refine lv_iconst (v := 0) hx hb dLW_law_606 (by decide) ?_
          exact J607 _ (Or.inl rfl)
        · refine lv_iconst (v := 1) hx hb dLW_law_602 (by decide) ?_
          refine lv_goto (tgt := 607) hx hb dLW_law_603 rfl ?_
          exact J607 _ (Or.inr rfl)
    · refine lv_if_eq (tgt := 579) hx hb dLW_law_572 rfl (fun h185 => ?_) (fun h185 => ?_)
      · refine lv_iconst (v := 0) hx hb dLW_law_579 (by decide) ?_
        exact J580 _ (Or.inl rfl)
      · refine lv_iconst (v := 1) hx hb dLW_law_575 (by decide) ?_
        refine lv_goto (tgt := 580) hx hb dLW_law_576 rfl ?_
        exact J580 _ (Or.inr rfl)
  · refine lv_tableOut (tgt := 615) hx hb dLW_law_33 (Or.inr (by rw [nI_toInt (by omega)]; omega)) rfl ?_
    exact BACK H locs ls (lv_sub hl [0, 3] rfl) hS
