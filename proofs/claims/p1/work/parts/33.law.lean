set_option maxHeartbeats 8000000 in
set_option maxRecDepth 100000 in
theorem whole_start {p : Program} {e : Env} {s : State} {m : MethodId} {below : List Frame} {meth : Method} {c : Code} (l : Launch) {b L : Nat} {xs : Nat → Int32} (hL : L ≤ 6) (C0 : lw_At p s m meth c b L xs) : W p l e room_1 s m #[Value.ref b] below meth c s.heap [] 0 0 (lw_Z below #[Value.ref b] s) (entryFrame m ([Value.ref b] : List Value).toArray 4) := by
  obtain ⟨hx, hb, hr, hml, hown, hts0, hXs, hbl, hlocks, hgv⟩ := C0
  have hown : s.vm.findClass "SpannedCellsLaw" = some m.cls := hown
  have hz : ∀ w9 ∈ zT, w9.before #[Value.ref b] s = true := fun w9 h => hts0 w9 (zT_in w9 h)
  have hN : zN s := z_nestOf hts0
  obtain ⟨A, hAd⟩ : ∃ A : Nat → Prop, A = (fun q => s.heap.size ≤ q) := ⟨_, rfl⟩
  have hA : ∀ q : Nat, s.heap.size ≤ q → A q := fun q h => by rw [hAd]; exact h
  have hAl : ∀ q : Nat, A q → s.heap.size ≤ q := fun q h => by rw [hAd] at h; exact h
  have hAb : ¬ A b := fun h => absurd (hAl b h) (by omega)
  obtain ⟨t, hZ⟩ := z_static (A := A) hts0 hgv (fun a h1 h2 => absurd (hAl a h2) (by omega))
  have hX : zX t A s := ⟨hN, hZ⟩
  obtain ⟨dC, dI, hK⟩ := z_knownOf hts0
  rw [lg_entry_eq]
  have hl := lv_entry ([.ref b]) (n := 4) (Nat.le_of_ble_eq_true rfl)
  generalize (lg_sl ([.ref b]) ++ List.replicate (4 - (lg_sl ([.ref b])).length) Slot.unset).toArray = ls at hl ⊢
  have hl : lv_has ls 4 [(0, .ref b)] := hl
  have hP : va_P (dC, dI) vwCl [] s.heap := fun k q h => by simp at h
  have hD : va_D A [] := ⟨fun i j p q h => by simp at h, fun k q h => by simp at h⟩
  have hS : va_S A s.heap s.heap [] := va_S.rf
  refine z_q (fun Q hQ => ?_)
  refine va_new (ci := 0) (fs := [.null, .null, .null, .int 0, .int 0, .int 0]) (C := RSC) (T := TSC) (N := 6) hx hb hz in_SC tySC tokSC hown (hz _ wd_45) (hz _ wd_46) (hz _ wd_29) hK hP hD hS hA rfl (by decide +kernel) (Nat.le_of_ble_eq_true rfl) (Nat.le_of_ble_eq_true rfl) dLW_law_0 (fun q1 H hP hD hS => ?_)
  have hP : va_P (dC, dI) vwCl [(q1, .inr (0, [.null, .null, .null, .int 0, .int 0, .int 0]))] H := hP
  have hD : va_D A [(q1, .inr (0, [.null, .null, .null, .int 0, .int 0, .int 0]))] := hD
  refine W.widen (k := 1) (n := 6) (Nat.le_of_ble_eq_true rfl) (Nat.le_of_ble_eq_true rfl) ?_
  refine lv_dup hx hb dLW_law_3 rfl ?_
  refine zw_callv (wr := []) hK hP hD hS hA [0] [] rfl rfl (by decide) (by decide) (va_runI (As := []) (rest := [.ref q1]) ⟨hx, hb, hml, hown, hz⟩ ((c_SC_init l dC dI q1 t ) H.size) (cwI 0 hz (z_gI wd_49) rfl rfl rfl (hz _ wd_29) (hz _ wd_47) (hz _ wd_48) rfl (by decide +kernel) ⟨Nat.le_of_ble_eq_true rfl, Nat.le_of_ble_eq_true rfl⟩) (zw_preS hK hP hD [0] (by decide) rfl [] rfl zX_blind (zX_call hX hS (va_free (wc := [(q1, .inr (0, [.null, .null, .null, .int 0, .int 0, .int 0]))]) hD hS hA [0] rfl))) rfl rfl hl.1 rfl (lv_room (Nat.le_of_ble_eq_true rfl)) dLW_law_4 ⟨Nat.le_of_ble_eq_true rfl, Nat.le_of_ble_eq_true rfl⟩) (fun u H locs h_r2 hP hD hK hS => ?_)
  obtain ⟨g, wd, hh, al⟩ := u
  have hP : va_P (dC, dI) vwCl [(q1, .inr (0, [.ref g, .ref wd, .ref hh, .int 0, .int 0, .int 0])), (g, .inr (1, [.ref al, .int 1, .int 0, .int 0, .int 0, .int 0])), (al, .inr (2, [.ref t, .int 0, .int 0]))] H := hP.sub [0, 1, 2] rfl
  have hD : va_D A [(q1, .inr (0, [.ref g, .ref wd, .ref hh, .int 0, .int 0, .int 0])), (g, .inr (1, [.ref al, .int 1, .int 0, .int 0, .int 0, .int 0])), (al, .inr (2, [.ref t, .int 0, .int 0]))] := hD.sub [0, 1, 2] (by decide) rfl
  have hK : va_K (dC, dI) vwCl [] s := hK
  refine W.widen (k := 16) (n := 90) (Nat.le_of_ble_eq_true rfl) (Nat.le_of_ble_eq_true rfl) ?_
  refine lv_astore_n hx hb dLW_law_7 rfl hl (Nat.le_of_ble_eq_true rfl) rfl (fun ls hl => ?_)
  have hl : lv_has ls 4 [(1, .ref q1), (0, .ref b)] := hl
  refine va_new (ci := 6) (fs := [.int 0, .null, .null, .int 0, .null, .null, .null, .null, .null, .null, .null, .null, .null, .null, .int 0, .int 0, .int 0, .int 0, .int 0, .int 0, .null, .null, .null, .null, .null, .null]) (C := RMD) (T := TMD) (N := 26) hx hb hz in_MD tyMD tokMD hown (hz _ wd_578) (hz _ wd_579) (hz _ wd_37) hK hP hD hS hA rfl (by decide +kernel) (Nat.le_of_ble_eq_true rfl) (Nat.le_of_ble_eq_true rfl) dLW_law_8 (fun q3 H hP hD hS => ?_)
  have hP : va_P (dC, dI) vwCl [(q1, .inr (0, [.ref g, .ref wd, .ref hh, .int 0, .int 0, .int 0])), (g, .inr (1, [.ref al, .int 1, .int 0, .int 0, .int 0, .int 0])), (al, .inr (2, [.ref t, .int 0, .int 0])), (q3, .inr (6, [.int 0, .null, .null, .int 0, .null, .null, .null, .null, .null, .null, .null, .null, .null, .null, .int 0, .int 0, .int 0, .int 0, .int 0, .int 0, .null, .null, .null, .null, .null, .null]))] H := hP
  have hD : va_D A [(q1, .inr (0, [.ref g, .ref wd, .ref hh, .int 0, .int 0, .int 0])), (g, .inr (1, [.ref al, .int 1, .int 0, .int 0, .int 0, .int 0])), (al, .inr (2, [.ref t, .int 0, .int 0])), (q3, .inr (6, [.int 0, .null, .null, .int 0, .null, .null, .null, .null, .null, .null, .null, .null, .null, .null, .int 0, .int 0, .int 0, .int 0, .int 0, .int 0, .null, .null, .null, .null, .null, .null]))] := hD
  refine W.widen (k := 17) (n := 116) (Nat.le_of_ble_eq_true rfl) (Nat.le_of_ble_eq_true rfl) ?_
  refine lv_dup hx hb dLW_law_11 rfl ?_
  refine zw_callv (wr := [(q1, .inr (0, [.ref g, .ref wd, .ref hh, .int 0, .int 0, .int 0])), (g, .inr (1, [.ref al, .int 1, .int 0, .int 0, .int 0, .int 0])), (al, .inr (2, [.ref t, .int 0, .int 0]))]) hK hP hD hS hA [3] [0, 1, 2] rfl rfl (by decide) (by decide) (va_runI (As := []) (rest := [.ref q3]) ⟨hx, hb, hml, hown, hz⟩ ((c_MD_init l dC dI q3 ) H.size) (cwI 0 hz (z_gI wd_582) rfl rfl rfl (hz _ wd_37) (hz _ wd_580) (hz _ wd_581) rfl (by decide +kernel) ⟨Nat.le_of_ble_eq_true rfl, Nat.le_of_ble_eq_true rfl⟩) (zw_preS hK hP hD [3] (by decide) rfl [] rfl z_true (fun _ _ _ => trivial)) rfl rfl hl.1 rfl (lv_room (Nat.le_of_ble_eq_true rfl)) dLW_law_12 ⟨Nat.le_of_ble_eq_true rfl, Nat.le_of_ble_eq_true rfl⟩) (fun u H locs h_r4 hP hD hK hS => ?_)
  obtain ⟨b0, b1, b2, b3, b4, b5, b6, b7, b8, b9, b10, b11, b12, b13, b14, b15, b16, b17, kb0, kb1, kb12, kb13, kb14, kb17, kb15⟩ := u
  have hP : va_P (dC, dI) vwCl [(q1, .inr (0, [.ref g, .ref wd, .ref hh, .int 0, .int 0, .int 0])), (g, .inr (1, [.ref al, .int 1, .int 0, .int 0, .int 0, .int 0])), (al, .inr (2, [.ref t, .int 0, .int 0])), (q3, .inr (6, [.int 1, .ref b0, .ref b1, .int 0, .ref b2, .ref b3, .ref b4, .ref b5, .ref b6, .ref b7, .ref b8, .ref b9, .ref b10, .ref b11, .int (-1), .int 0, .int 0, .int 0, .int 0, .int 0, .ref b12, .ref b13, .ref b14, .ref b15, .ref b16, .ref b17])), (b0, .inl (kb0, 8, .inl (fun _ => 0))), (b1, .inl (kb1, 8, .inl (fun _ => 0))), (b12, .inl (kb12, 12, .inl (fun _ => 0))), (b13, .inl (kb13, 12, .inl (fun _ => 0))), (b14, .inl (kb14, 12, .inl (fun _ => 0))), (b17, .inl (kb17, 12, .inl (fun _ => 0))), (b15, .inl (kb15, 12, .inl (fun _ => 0)))] H := hP.sub [0, 1, 2, 3, 4, 5, 6, 7, 8, 9, 10] rfl
  have hD : va_D A [(q1, .inr (0, [.ref g, .ref wd, .ref hh, .int 0, .int 0, .int 0])), (g, .inr (1, [.ref al, .int 1, .int 0, .int 0, .int 0, .int 0])), (al, .inr (2, [.ref t, .int 0, .int 0])), (q3, .inr (6, [.int 1, .ref b0, .ref b1, .int 0, .ref b2, .ref b3, .ref b4, .ref b5, .ref b6, .ref b7, .ref b8, .ref b9, .ref b10, .ref b11, .int (-1), .int 0, .int 0, .int 0, .int 0, .int 0, .ref b12, .ref b13, .ref b14, .ref b15, .ref b16, .ref b17])), (b0, .inl (kb0, 8, .inl (fun _ => 0))), (b1, .inl (kb1, 8, .inl (fun _ => 0))), (b12, .inl (kb12, 12, .inl (fun _ => 0))), (b13, .inl (kb13, 12, .inl (fun _ => 0))), (b14, .inl (kb14, 12, .inl (fun _ => 0))), (b17, .inl (kb17, 12, .inl (fun _ => 0))), (b15, .inl (kb15, 12, .inl (fun _ => 0)))] := hD.sub [0, 1, 2, 3, 4, 5, 6, 7, 8, 9, 10] (by decide) rfl
  have hK : va_K (dC, dI) vwCl [(kb0, .int), (kb1, .int), (kb12, .int), (kb13, .int), (kb14, .int), (kb17, .int), (kb15, .int)] s := hK
  refine W.widen (k := 35) (n := 604) (Nat.le_of_ble_eq_true rfl) (Nat.le_of_ble_eq_true rfl) ?_
  refine lv_astore_n hx hb dLW_law_15 rfl hl (Nat.le_of_ble_eq_true rfl) rfl (fun ls hl => ?_)
  have hl : lv_has ls 4 [(2, .ref q3), (1, .ref q1), (0, .ref b)] := hl
  refine lv_iconst (v := 0) hx hb dLW_law_16 (by decide) ?_
  refine lv_istore_n hx hb dLW_law_17 rfl hl (Nat.le_of_ble_eq_true rfl) rfl (fun ls hl => ?_)
  have hl : lv_has ls 4 [(3, .int 0), (2, .ref q3), (1, .ref q1), (0, .ref b)] := hl
  refine lv_iload_n hx hb dLW_law_18 rfl (lv_at hl 0 rfl) ?_
  refine lv_aload_n hx hb dLW_law_19 rfl (lv_at hl 3 rfl) ?_
  refine va_slen hx hb hXs hbl hAb hS dLW_law_20 ?_
  refine lv_bipush (v := 6) hx hb dLW_law_21 (by decide) ?_
  refine lv_isub hx hb dLW_law_23 ?_
  have END : ∀ (H : Heap) (locs : List Loc) (ls : Array Slot), va_S A s.heap H locs → W p l e room_1 s m #[Value.ref b] below meth c H locs 35 604 Q (F0 m 621 ls []) := by
    intro H locs ls hS
    refine lv_iconst (v := 1) hx hb dLW_law_621 (by decide) ?_
    refine va_forget (fun q hq => hAl _ (hS.2.2 q hq)) ?_
    refine W.widen (k := 600000) (n := 7302249) (Nat.le_of_ble_eq_true rfl) (Nat.le_of_ble_eq_true rfl) ?_
    subst hQ
    exact lw_ret hx hb hr hlocks dLW_law_622
  rcases Nat.lt_or_ge L 6 with hL6 | hL6
  · refine lv_icmp_gt (tgt := 621) hx hb dLW_law_24 rfl (fun _ => ?_) (fun h => absurd (show nI L - nI 6 < 0 from pk_sneg (by decide) hL6) h)
    exact END H locs ls hS
  have hLe : L = 6 := by omega
  subst hLe
  refine lv_icmp_gt (tgt := 621) hx hb dLW_law_24 rfl (fun h => absurd h (by decide)) (fun _ => ?_)
  have BACK : ∀ (H : Heap) (locs : List Loc) (ls : Array Slot), lv_has ls 4 [(3, .int 0), (0, .ref b)] → va_S A s.heap H locs → W p l e room_1 s m #[Value.ref b] below meth c H locs 35 604 Q (F0 m 615 ls []) := by
    intro H locs ls hl hS
    refine lv_iinc (k := 0) (v := 6) hx hb dLW_law_615 hl rfl (by decide) (Nat.le_of_ble_eq_true rfl) rfl (fun ls hl => ?_)
    have hl : lv_has ls 4 [(3, .int 6), (0, .ref b)] := hl
    refine lv_goto (tgt := 18) hx hb dLW_law_618 rfl ?_
    refine lv_iload_n hx hb dLW_law_18 rfl (lv_at hl 0 rfl) ?_
    refine lv_aload_n hx hb dLW_law_19 rfl (lv_at hl 1 rfl) ?_
    refine va_slen hx hb hXs hbl hAb hS dLW_law_20 ?_
    refine lv_topi (fun x5 e6 => ?_)
    have e6 : x5 = 6 := e6.trans (rfl)
    subst e6
    refine lv_bipush (v := 6) hx hb dLW_law_21 (by decide) ?_
    refine lv_isub hx hb dLW_law_23 ?_
    refine lv_topi (fun x7 e8 => ?_)
    have e8 : x7 = 0 := e8.trans (by decide)
    subst e8
    refine lv_icmp_gt (tgt := 621) hx hb dLW_law_24 rfl (fun _ => ?_) (fun h => absurd (by decide) h)
    exact END H locs ls hS
  refine lv_aload_n hx hb dLW_law_27 rfl (lv_at hl 3 rfl) ?_
  refine lv_iload_n hx hb dLW_law_28 rfl (lv_at hl 0 rfl) ?_
  refine va_sld hx hb hXs hbl hAb hS (by unfold vp_in; decide) dLW_law_29 ?_
  refine lv_topi (fun z9 e_z9 => ?_)
  refine lv_bipush (v := 31) hx hb dLW_law_30 (by decide) ?_
  refine lv_iand hx hb dLW_law_32 ?_
  obtain ⟨j, hj, ej⟩ := pk_andE z9 5 (m := 31) (by decide)
  rw [ej]
  rcases (show j = 0 ∨ j = 1 ∨ j = 2 ∨ j = 3 ∨ j = 4 ∨ j = 5 ∨ j = 6 ∨ j = 7 ∨ j = 8 ∨ j = 9 ∨ j = 10 ∨ j = 11 ∨ j = 12 ∨ j = 13 ∨ j = 14 ∨ j = 15 ∨ j = 16 ∨ 17 ≤ j by omega) with rfl | rfl | rfl | rfl | rfl | rfl | rfl | rfl | rfl | rfl | rfl | rfl | rfl | rfl | rfl | rfl | rfl | hj17
  · refine lv_tableIn (off := 83) (tgt := 116) hx hb dLW_law_33 (by decide) (by decide) (by decide) rfl ?_
    refine lv_aload_n hx hb dLW_law_116 rfl (lv_at hl 2 rfl) ?_
    refine zw_calli (wr := [(q3, .inr (6, [.int 1, .ref b0, .ref b1, .int 0, .ref b2, .ref b3, .ref b4, .ref b5, .ref b6, .ref b7, .ref b8, .ref b9, .ref b10, .ref b11, .int (-1), .int 0, .int 0, .int 0, .int 0, .int 0, .ref b12, .ref b13, .ref b14, .ref b15, .ref b16, .ref b17])), (b0, .inl (kb0, 8, .inl (fun _ => 0))), (b1, .inl (kb1, 8, .inl (fun _ => 0))), (b12, .inl (kb12, 12, .inl (fun _ => 0))), (b13, .inl (kb13, 12, .inl (fun _ => 0))), (b14, .inl (kb14, 12, .inl (fun _ => 0))), (b17, .inl (kb17, 12, .inl (fun _ => 0))), (b15, .inl (kb15, 12, .inl (fun _ => 0)))]) hK hP hD hS hA [0, 1, 2] [3, 4, 5, 6, 7, 8, 9, 10] rfl rfl (by decide) (by decide) (va_runV (As := []) (rest := []) ⟨hx, hb, hml, hown, hz⟩ ((c_SC_group l dC dI q1 g wd hh al t 0 ) H.size) (cwV 0 hz (z_gV wd_169 wd_170 wd_171 wd_29 wd_172) rfl rfl rfl (by decide +kernel) ⟨Nat.le_of_ble_eq_true rfl, Nat.le_of_ble_eq_true rfl⟩) (zw_preV (q0 := 0) (q := (RSC, TSC, 6)) hK hP hD rfl rfl [0, 1, 2] (by decide) rfl [] rfl z_true (fun _ _ _ => trivial)) rfl rfl hl.1 rfl (lv_room (Nat.le_of_ble_eq_true rfl)) dLW_law_117 ⟨Nat.le_of_ble_eq_true rfl, Nat.le_of_ble_eq_true rfl⟩) (fun r10 u H locs h_r10 hP hD hK hS => ?_)
    have hP : va_P (dC, dI) vwCl [(q3, .inr (6, [.int 1, .ref b0, .ref b1, .int 0, .ref b2, .ref b3, .ref b4, .ref b5, .ref b6, .ref b7, .ref b8, .ref b9, .ref b10, .ref b11, .int (-1), .int 0, .int 0, .int 0, .int 0, .int 0, .ref b12, .ref b13, .ref b14, .ref b15, .ref b16, .ref b17])), (b0, .inl (kb0, 8, .inl (fun _ => 0))), (b1, .inl (kb1, 8, .inl (fun _ => 0))), (b12, .inl (kb12, 12, .inl (fun _ => 0))), (b13, .inl (kb13, 12, .inl (fun _ => 0))), (b14, .inl (kb14, 12, .inl (fun _ => 0))), (b17, .inl (kb17, 12, .inl (fun _ => 0))), (b15, .inl (kb15, 12, .inl (fun _ => 0)))] H := hP.sub [0, 1, 2, 3, 4, 5, 6, 7] rfl
    have hD : va_D A [(q3, .inr (6, [.int 1, .ref b0, .ref b1, .int 0, .ref b2, .ref b3, .ref b4, .ref b5, .ref b6, .ref b7, .ref b8, .ref b9, .ref b10, .ref b11, .int (-1), .int 0, .int 0, .int 0, .int 0, .int 0, .ref b12, .ref b13, .ref b14, .ref b15, .ref b16, .ref b17])), (b0, .inl (kb0, 8, .inl (fun _ => 0))), (b1, .inl (kb1, 8, .inl (fun _ => 0))), (b12, .inl (kb12, 12, .inl (fun _ => 0))), (b13, .inl (kb13, 12, .inl (fun _ => 0))), (b14, .inl (kb14, 12, .inl (fun _ => 0))), (b17, .inl (kb17, 12, .inl (fun _ => 0))), (b15, .inl (kb15, 12, .inl (fun _ => 0)))] := hD.sub [0, 1, 2, 3, 4, 5, 6, 7] (by decide) rfl
    have hK : va_K (dC, dI) vwCl [(kb0, .int), (kb1, .int), (kb12, .int), (kb13, .int), (kb14, .int), (kb17, .int), (kb15, .int)] s := hK
    have h_r10 : r10 = 2 := h_r10
    subst h_r10
    refine lv_aload_n hx hb dLW_law_120 rfl (lv_at hl 1 rfl) ?_
    refine zw_calli (wr := [(b12, .inl (kb12, 12, .inl (fun _ => 0))), (b13, .inl (kb13, 12, .inl (fun _ => 0))), (b14, .inl (kb14, 12, .inl (fun _ => 0))), (b17, .inl (kb17, 12, .inl (fun _ => 0))), (b15, .inl (kb15, 12, .inl (fun _ => 0)))]) hK hP hD hS hA [0, 1, 2] [3, 4, 5, 6, 7] rfl rfl (by decide) (by decide) (va_runV (As := []) (rest := [.int 2]) ⟨hx, hb, hml, hown, hz⟩ ((c_MD_group l dC dI q3 b0 b1 b2 b3 b4 b5 b6 b7 b8 b9 b10 b11 b12 b13 b14 b15 b16 b17 kb0 kb1 ) H.size) (cwV 0 hz (z_gV wd_664 wd_665 wd_666 wd_37 wd_667) rfl rfl rfl (by decide +kernel) ⟨Nat.le_of_ble_eq_true rfl, Nat.le_of_ble_eq_true rfl⟩) (zw_preV (q0 := 0) (q := (RMD, TMD, 26)) hK hP hD rfl rfl [0, 1, 2] (by decide) rfl [0, 1] rfl z_true (fun _ _ _ => trivial)) rfl rfl hl.1 rfl (lv_room (Nat.le_of_ble_eq_true rfl)) dLW_law_121 ⟨Nat.le_of_ble_eq_true rfl, Nat.le_of_ble_eq_true rfl⟩) (fun r11 u H locs h_r11 hP hD hK hS => ?_)
    have hP : va_P (dC, dI) vwCl [(b12, .inl (kb12, 12, .inl (fun _ => 0))), (b13, .inl (kb13, 12, .inl (fun _ => 0))), (b14, .inl (kb14, 12, .inl (fun _ => 0))), (b17, .inl (kb17, 12, .inl (fun _ => 0))), (b15, .inl (kb15, 12, .inl (fun _ => 0)))] H := hP.sub [0, 1, 2, 3, 4] rfl
    have hD : va_D A [(b12, .inl (kb12, 12, .inl (fun _ => 0))), (b13, .inl (kb13, 12, .inl (fun _ => 0))), (b14, .inl (kb14, 12, .inl (fun _ => 0))), (b17, .inl (kb17, 12, .inl (fun _ => 0))), (b15, .inl (kb15, 12, .inl (fun _ => 0)))] := hD.sub [0, 1, 2, 3, 4] (by decide) rfl
    have hK : va_K (dC, dI) vwCl [(kb0, .int), (kb1, .int), (kb12, .int), (kb13, .int), (kb14, .int), (kb17, .int), (kb15, .int)] s := hK
    have h_r11 : r11 = 2 := h_r11
    subst h_r11
    refine lv_icmp_eq (tgt := 615) hx hb dLW_law_124 rfl (fun _ => ?_) (fun h => absurd (by decide) h)
    exact BACK H locs ls (lv_sub hl [0, 3] rfl) hS
  · refine lv_tableIn (off := 96) (tgt := 129) hx hb dLW_law_33 (by decide) (by decide) (by decide) rfl ?_
    refine lv_aload_n hx hb dLW_law_129 rfl (lv_at hl 2 rfl) ?_
    refine zw_calli (wr := [(q3, .inr (6, [.int 1, .ref b0, .ref b1, .int 0, .ref b2, .ref b3, .ref b4, .ref b5, .ref b6, .ref b7, .ref b8, .ref b9, .ref b10, .ref b11, .int (-1), .int 0, .int 0, .int 0, .int 0, .int 0, .ref b12, .ref b13, .ref b14, .ref b15, .ref b16, .ref b17])), (b0, .inl (kb0, 8, .inl (fun _ => 0))), (b1, .inl (kb1, 8, .inl (fun _ => 0))), (b12, .inl (kb12, 12, .inl (fun _ => 0))), (b13, .inl (kb13, 12, .inl (fun _ => 0))), (b14, .inl (kb14, 12, .inl (fun _ => 0))), (b17, .inl (kb17, 12, .inl (fun _ => 0))), (b15, .inl (kb15, 12, .inl (fun _ => 0)))]) hK hP hD hS hA [0, 1, 2] [3, 4, 5, 6, 7, 8, 9, 10] rfl rfl (by decide) (by decide) (va_runV (As := []) (rest := []) ⟨hx, hb, hml, hown, hz⟩ ((c_SC_row l dC dI q1 g wd hh al t 0 ) H.size) (cwV 0 hz (z_gV wd_177 wd_178 wd_179 wd_29 wd_180) rfl rfl rfl (by decide +kernel) ⟨Nat.le_of_ble_eq_true rfl, Nat.le_of_ble_eq_true rfl⟩) (zw_preV (q0 := 0) (q := (RSC, TSC, 6)) hK hP hD rfl rfl [0, 1, 2] (by decide) rfl [] rfl z_true (fun _ _ _ => trivial)) rfl rfl hl.1 rfl (lv_room (Nat.le_of_ble_eq_true rfl)) dLW_law_130 ⟨Nat.le_of_ble_eq_true rfl, Nat.le_of_ble_eq_true rfl⟩) (fun r12 u H locs h_r12 hP hD hK hS => ?_)
    have hP : va_P (dC, dI) vwCl [(q3, .inr (6, [.int 1, .ref b0, .ref b1, .int 0, .ref b2, .ref b3, .ref b4, .ref b5, .ref b6, .ref b7, .ref b8, .ref b9, .ref b10, .ref b11, .int (-1), .int 0, .int 0, .int 0, .int 0, .int 0, .ref b12, .ref b13, .ref b14, .ref b15, .ref b16, .ref b17])), (b0, .inl (kb0, 8, .inl (fun _ => 0))), (b1, .inl (kb1, 8, .inl (fun _ => 0))), (b12, .inl (kb12, 12, .inl (fun _ => 0))), (b13, .inl (kb13, 12, .inl (fun _ => 0))), (b14, .inl (kb14, 12, .inl (fun _ => 0))), (b17, .inl (kb17, 12, .inl (fun _ => 0))), (b15, .inl (kb15, 12, .inl (fun _ => 0)))] H := hP.sub [0, 1, 2, 3, 4, 5, 6, 7] rfl
    have hD : va_D A [(q3, .inr (6, [.int 1, .ref b0, .ref b1, .int 0, .ref b2, .ref b3, .ref b4, .ref b5, .ref b6, .ref b7, .ref b8, .ref b9, .ref b10, .ref b11, .int (-1), .int 0, .int 0, .int 0, .int 0, .int 0, .ref b12, .ref b13, .ref b14, .ref b15, .ref b16, .ref b17])), (b0, .inl (kb0, 8, .inl (fun _ => 0))), (b1, .inl (kb1, 8, .inl (fun _ => 0))), (b12, .inl (kb12, 12, .inl (fun _ => 0))), (b13, .inl (kb13, 12, .inl (fun _ => 0))), (b14, .inl (kb14, 12, .inl (fun _ => 0))), (b17, .inl (kb17, 12, .inl (fun _ => 0))), (b15, .inl (kb15, 12, .inl (fun _ => 0)))] := hD.sub [0, 1, 2, 3, 4, 5, 6, 7] (by decide) rfl
    have hK : va_K (dC, dI) vwCl [(kb0, .int), (kb1, .int), (kb12, .int), (kb13, .int), (kb14, .int), (kb17, .int), (kb15, .int)] s := hK
    have h_r12 : r12 = 0 := h_r12
    subst h_r12
    refine lv_aload_n hx hb dLW_law_133 rfl (lv_at hl 1 rfl) ?_
    refine zw_calli (wr := [(b12, .inl (kb12, 12, .inl (fun _ => 0))), (b13, .inl (kb13, 12, .inl (fun _ => 0))), (b14, .inl (kb14, 12, .inl (fun _ => 0))), (b17, .inl (kb17, 12, .inl (fun _ => 0))), (b15, .inl (kb15, 12, .inl (fun _ => 0)))]) hK hP hD hS hA [0, 1, 2] [3, 4, 5, 6, 7] rfl rfl (by decide) (by decide) (va_runV (As := []) (rest := [.int 0]) ⟨hx, hb, hml, hown, hz⟩ ((c_MD_row l dC dI q3 b0 b1 b2 b3 b4 b5 b6 b7 b8 b9 b10 b11 b12 b13 b14 b15 b16 b17 kb0 kb1 ) H.size) (cwV 0 hz (z_gV wd_672 wd_673 wd_674 wd_37 wd_675) rfl rfl rfl (by decide +kernel) ⟨Nat.le_of_ble_eq_true rfl, Nat.le_of_ble_eq_true rfl⟩) (zw_preV (q0 := 0) (q := (RMD, TMD, 26)) hK hP hD rfl rfl [0, 1, 2] (by decide) rfl [0, 1] rfl z_true (fun _ _ _ => trivial)) rfl rfl hl.1 rfl (lv_room (Nat.le_of_ble_eq_true rfl)) dLW_law_134 ⟨Nat.le_of_ble_eq_true rfl, Nat.le_of_ble_eq_true rfl⟩) (fun r13 u H locs h_r13 hP hD hK hS => ?_)
    have hP : va_P (dC, dI) vwCl [(b12, .inl (kb12, 12, .inl (fun _ => 0))), (b13, .inl (kb13, 12, .inl (fun _ => 0))), (b14, .inl (kb14, 12, .inl (fun _ => 0))), (b17, .inl (kb17, 12, .inl (fun _ => 0))), (b15, .inl (kb15, 12, .inl (fun _ => 0)))] H := hP.sub [0, 1, 2, 3, 4] rfl
    have hD : va_D A [(b12, .inl (kb12, 12, .inl (fun _ => 0))), (b13, .inl (kb13, 12, .inl (fun _ => 0))), (b14, .inl (kb14, 12, .inl (fun _ => 0))), (b17, .inl (kb17, 12, .inl (fun _ => 0))), (b15, .inl (kb15, 12, .inl (fun _ => 0)))] := hD.sub [0, 1, 2, 3, 4] (by decide) rfl
    have hK : va_K (dC, dI) vwCl [(kb0, .int), (kb1, .int), (kb12, .int), (kb13, .int), (kb14, .int), (kb17, .int), (kb15, .int)] s := hK
    have h_r13 : r13 = 0 := h_r13
    subst h_r13
    refine lv_icmp_eq (tgt := 615) hx hb dLW_law_137 rfl (fun _ => ?_) (fun h => absurd (by decide) h)
    exact BACK H locs ls (lv_sub hl [0, 3] rfl) hS
  · refine lv_tableIn (off := 109) (tgt := 142) hx hb dLW_law_33 (by decide) (by decide) (by decide) rfl ?_
    refine lv_aload_n hx hb dLW_law_142 rfl (lv_at hl 2 rfl) ?_
    refine lv_aload_n hx hb dLW_law_143 rfl (lv_at hl 3 rfl) ?_
    refine lv_iload_n hx hb dLW_law_144 rfl (lv_at hl 0 rfl) ?_
    refine lv_iconst (v := 1) hx hb dLW_law_145 (by decide) ?_
    refine lv_iadd hx hb dLW_law_146 ?_
    refine lv_topi (fun x14 e15 => ?_)
    have e15 : x14 = 1 := e15.trans (by decide)
    subst e15
    refine va_sld hx hb hXs hbl hAb hS (by unfold vp_in; decide) dLW_law_147 ?_
    refine lv_topi (fun z16 e_z16 => ?_)
    refine lv_aload_n hx hb dLW_law_148 rfl (lv_at hl 3 rfl) ?_
    refine lv_iload_n hx hb dLW_law_149 rfl (lv_at hl 0 rfl) ?_
    refine lv_iconst (v := 2) hx hb dLW_law_150 (by decide) ?_
    refine lv_iadd hx hb dLW_law_151 ?_
    refine lv_topi (fun x17 e18 => ?_)
    have e18 : x17 = 2 := e18.trans (by decide)
    subst e18
    refine va_sld hx hb hXs hbl hAb hS (by unfold vp_in; decide) dLW_law_152 ?_
    refine lv_topi (fun z19 e_z19 => ?_)
    refine lv_aload_n hx hb dLW_law_153 rfl (lv_at hl 3 rfl) ?_
    refine lv_iload_n hx hb dLW_law_154 rfl (lv_at hl 0 rfl) ?_
    refine lv_iconst (v := 3) hx hb dLW_law_155 (by decide) ?_
    refine lv_iadd hx hb dLW_law_156 ?_
    refine lv_topi (fun x20 e21 => ?_)
    have e21 : x20 = 3 := e21.trans (by decide)
    subst e21
    refine va_sld hx hb hXs hbl hAb hS (by unfold vp_in; decide) dLW_law_157 ?_
    refine lv_topi (fun z22 e_z22 => ?_)
    refine lv_aload_n hx hb dLW_law_158 rfl (lv_at hl 3 rfl) ?_
    refine lv_iload_n hx hb dLW_law_159 rfl (lv_at hl 0 rfl) ?_
    refine lv_iconst (v := 4) hx hb dLW_law_160 (by decide) ?_
    refine lv_iadd hx hb dLW_law_161 ?_
    refine lv_topi (fun x23 e24 => ?_)
    have e24 : x23 = 4 := e24.trans (by decide)
    subst e24
    refine va_sld hx hb hXs hbl hAb hS (by unfold vp_in; decide) dLW_law_162 ?_
    refine lv_topi (fun z25 e_z25 => ?_)
    refine lv_aload_n hx hb dLW_law_163 rfl (lv_at hl 3 rfl) ?_
    refine lv_iload_n hx hb dLW_law_164 rfl (lv_at hl 0 rfl) ?_
    refine lv_iconst (v := 5) hx hb dLW_law_165 (by decide) ?_
    refine lv_iadd hx hb dLW_law_166 ?_
    refine lv_topi (fun x26 e27 => ?_)
    have e27 : x26 = 5 := e27.trans (by decide)
    subst e27
    refine va_sld hx hb hXs hbl hAb hS (by unfold vp_in; decide) dLW_law_167 ?_
    refine lv_topi (fun z28 e_z28 => ?_)
    refine vp_callSi (W.runV (As := [.int z16, .int z19, .int z22, .int z25, .int z28]) (rest := []) ⟨hx, hb, hml, hown, hz⟩ (c_SC_cell l dC dI q1 g wd hh al t 0 z16 z19 z22 z25 z28 ) (cwV 5 hz (z_gV wd_215 wd_216 wd_217 wd_29 wd_218) rfl rfl rfl (by decide +kernel) ⟨Nat.le_of_ble_eq_true rfl, Nat.le_of_ble_eq_true rfl⟩) (zp_preV (q0 := 0) (q := (RSC, TSC, 6)) hK hP rfl rfl [0, 1, 2] rfl [] rfl z_true (fun _ _ _ => trivial)) rfl rfl hl.1 rfl (lv_room (Nat.le_of_ble_eq_true rfl)) dLW_law_168 ⟨Nat.le_of_ble_eq_true rfl, Nat.le_of_ble_eq_true rfl⟩) (fun r29 h_r29 => ?_)
    have h_r29 : r29 = (-1) := h_r29
    subst h_r29
    refine lv_aload_n hx hb dLW_law_171 rfl (lv_at hl 1 rfl) ?_
    refine lv_aload_n hx hb dLW_law_172 rfl (lv_at hl 3 rfl) ?_
    refine lv_iload_n hx hb dLW_law_173 rfl (lv_at hl 0 rfl) ?_
    refine lv_iconst (v := 1) hx hb dLW_law_174 (by decide) ?_
    refine lv_iadd hx hb dLW_law_175 ?_
    refine lv_topi (fun x30 e31 => ?_)
    have e31 : x30 = 1 := e31.trans (by decide)
    subst e31
    refine va_sld hx hb hXs hbl hAb hS (by unfold vp_in; decide) dLW_law_176 ?_
    refine lv_topi (fun x32 e33 => ?_)
    have e33 : z16 = x32 := e_z16.trans e33.symm
    subst e33
    refine lv_aload_n hx hb dLW_law_177 rfl (lv_at hl 3 rfl) ?_
    refine lv_iload_n hx hb dLW_law_178 rfl (lv_at hl 0 rfl) ?_
    refine lv_iconst (v := 2) hx hb dLW_law_179 (by decide) ?_
    refine lv_iadd hx hb dLW_law_180 ?_
    refine lv_topi (fun x34 e35 => ?_)
    have e35 : x34 = 2 := e35.trans (by decide)
    subst e35
    refine va_sld hx hb hXs hbl hAb hS (by unfold vp_in; decide) dLW_law_181 ?_
    refine lv_topi (fun x36 e37 => ?_)
    have e37 : z19 = x36 := e_z19.trans e37.symm
    subst e37
    refine lv_aload_n hx hb dLW_law_182 rfl (lv_at hl 3 rfl) ?_
    refine lv_iload_n hx hb dLW_law_183 rfl (lv_at hl 0 rfl) ?_
    refine lv_iconst (v := 3) hx hb dLW_law_184 (by decide) ?_
    refine lv_iadd hx hb dLW_law_185 ?_
    refine lv_topi (fun x38 e39 => ?_)
    have e39 : x38 = 3 := e39.trans (by decide)
    subst e39
    refine va_sld hx hb hXs hbl hAb hS (by unfold vp_in; decide) dLW_law_186 ?_
    refine lv_topi (fun x40 e41 => ?_)
    have e41 : z22 = x40 := e_z22.trans e41.symm
    subst e41
    refine lv_aload_n hx hb dLW_law_187 rfl (lv_at hl 3 rfl) ?_
    refine lv_iload_n hx hb dLW_law_188 rfl (lv_at hl 0 rfl) ?_
    refine lv_iconst (v := 4) hx hb dLW_law_189 (by decide) ?_
    refine lv_iadd hx hb dLW_law_190 ?_
    refine lv_topi (fun x42 e43 => ?_)
    have e43 : x42 = 4 := e43.trans (by decide)
    subst e43
    refine va_sld hx hb hXs hbl hAb hS (by unfold vp_in; decide) dLW_law_191 ?_
    refine lv_topi (fun x44 e45 => ?_)
    have e45 : z25 = x44 := e_z25.trans e45.symm
    subst e45
    refine lv_aload_n hx hb dLW_law_192 rfl (lv_at hl 3 rfl) ?_
    refine lv_iload_n hx hb dLW_law_193 rfl (lv_at hl 0 rfl) ?_
    refine lv_iconst (v := 5) hx hb dLW_law_194 (by decide) ?_
    refine lv_iadd hx hb dLW_law_195 ?_
    refine lv_topi (fun x46 e47 => ?_)
    have e47 : x46 = 5 := e47.trans (by decide)
    subst e47
    refine va_sld hx hb hXs hbl hAb hS (by unfold vp_in; decide) dLW_law_196 ?_
    refine lv_topi (fun x48 e49 => ?_)
    have e49 : z28 = x48 := e_z28.trans e49.symm
    subst e49
    refine vp_callSi (W.runV (As := [.int z16, .int z19, .int z22, .int z25, .int z28]) (rest := [.int (-1)]) ⟨hx, hb, hml, hown, hz⟩ (c_MD_cell l dC dI q3 b0 b1 b2 b3 b4 b5 b6 b7 b8 b9 b10 b11 b12 b13 b14 b15 b16 b17 z16 z19 z22 z25 z28 ) (cwV 5 hz (z_gV wd_676 wd_677 wd_678 wd_37 wd_679) rfl rfl rfl (by decide +kernel) ⟨Nat.le_of_ble_eq_true rfl, Nat.le_of_ble_eq_true rfl⟩) (zp_preV (q0 := 3) (q := (RMD, TMD, 26)) hK hP rfl rfl [3] rfl [] rfl z_true (fun _ _ _ => trivial)) rfl rfl hl.1 rfl (lv_room (Nat.le_of_ble_eq_true rfl)) dLW_law_197 ⟨Nat.le_of_ble_eq_true rfl, Nat.le_of_ble_eq_true rfl⟩) (fun r50 h_r50 => ?_)
    have h_r50 : r50 = (-1) := h_r50
    subst h_r50
    refine lv_icmp_eq (tgt := 615) hx hb dLW_law_200 rfl (fun _ => ?_) (fun h => absurd (by decide) h)
    exact BACK H locs ls (lv_sub hl [0, 3] rfl) hS
  · refine lv_tableIn (off := 172) (tgt := 205) hx hb dLW_law_33 (by decide) (by decide) (by decide) rfl ?_
    refine lv_aload_n hx hb dLW_law_205 rfl (lv_at hl 2 rfl) ?_
    refine lv_aload_n hx hb dLW_law_206 rfl (lv_at hl 3 rfl) ?_
    refine lv_iload_n hx hb dLW_law_207 rfl (lv_at hl 0 rfl) ?_
    refine lv_iconst (v := 1) hx hb dLW_law_208 (by decide) ?_
    refine lv_iadd hx hb dLW_law_209 ?_
    refine lv_topi (fun x51 e52 => ?_)
    have e52 : x51 = 1 := e52.trans (by decide)
    subst e52
    refine va_sld hx hb hXs hbl hAb hS (by unfold vp_in; decide) dLW_law_210 ?_
    refine lv_topi (fun z53 e_z53 => ?_)
    refine lv_aload_n hx hb dLW_law_211 rfl (lv_at hl 3 rfl) ?_
    refine lv_iload_n hx hb dLW_law_212 rfl (lv_at hl 0 rfl) ?_
    refine lv_iconst (v := 2) hx hb dLW_law_213 (by decide) ?_
    refine lv_iadd hx hb dLW_law_214 ?_
    refine lv_topi (fun x54 e55 => ?_)
    have e55 : x54 = 2 := e55.trans (by decide)
    subst e55
    refine va_sld hx hb hXs hbl hAb hS (by unfold vp_in; decide) dLW_law_215 ?_
    refine lv_topi (fun z56 e_z56 => ?_)
    refine lv_aload_n hx hb dLW_law_216 rfl (lv_at hl 3 rfl) ?_
    refine lv_iload_n hx hb dLW_law_217 rfl (lv_at hl 0 rfl) ?_
    refine lv_iconst (v := 3) hx hb dLW_law_218 (by decide) ?_
    refine lv_iadd hx hb dLW_law_219 ?_
    refine lv_topi (fun x57 e58 => ?_)
    have e58 : x57 = 3 := e58.trans (by decide)
    subst e58
    refine va_sld hx hb hXs hbl hAb hS (by unfold vp_in; decide) dLW_law_220 ?_
    refine lv_topi (fun z59 e_z59 => ?_)
    refine vp_callSi (W.runV (As := [.int z53, .int z56, .int z59]) (rest := []) ⟨hx, hb, hml, hown, hz⟩ (c_SC_border l dC dI q1 g wd hh al t 0 z53 z56 z59 ) (cwV 3 hz (z_gV wd_351 wd_352 wd_353 wd_29 wd_354) rfl rfl rfl (by decide +kernel) ⟨Nat.le_of_ble_eq_true rfl, Nat.le_of_ble_eq_true rfl⟩) (zp_preV (q0 := 0) (q := (RSC, TSC, 6)) hK hP rfl rfl [0, 1, 2] rfl [] rfl z_true (fun _ _ _ => trivial)) rfl rfl hl.1 rfl (lv_room (Nat.le_of_ble_eq_true rfl)) dLW_law_221 ⟨Nat.le_of_ble_eq_true rfl, Nat.le_of_ble_eq_true rfl⟩) (fun r60 h_r60 => ?_)
    have h_r60 : r60 = 0 := h_r60
    subst h_r60
    refine lv_aload_n hx hb dLW_law_224 rfl (lv_at hl 1 rfl) ?_
    refine lv_aload_n hx hb dLW_law_225 rfl (lv_at hl 3 rfl) ?_
    refine lv_iload_n hx hb dLW_law_226 rfl (lv_at hl 0 rfl) ?_
    refine lv_iconst (v := 1) hx hb dLW_law_227 (by decide) ?_
    refine lv_iadd hx hb dLW_law_228 ?_
    refine lv_topi (fun x61 e62 => ?_)
    have e62 : x61 = 1 := e62.trans (by decide)
    subst e62
    refine va_sld hx hb hXs hbl hAb hS (by unfold vp_in; decide) dLW_law_229 ?_
    refine lv_topi (fun x63 e64 => ?_)
    have e64 : z53 = x63 := e_z53.trans e64.symm
    subst e64
    refine lv_aload_n hx hb dLW_law_230 rfl (lv_at hl 3 rfl) ?_
    refine lv_iload_n hx hb dLW_law_231 rfl (lv_at hl 0 rfl) ?_
    refine lv_iconst (v := 2) hx hb dLW_law_232 (by decide) ?_
    refine lv_iadd hx hb dLW_law_233 ?_
    refine lv_topi (fun x65 e66 => ?_)
    have e66 : x65 = 2 := e66.trans (by decide)
    subst e66
    refine va_sld hx hb hXs hbl hAb hS (by unfold vp_in; decide) dLW_law_234 ?_
    refine lv_topi (fun x67 e68 => ?_)
    have e68 : z56 = x67 := e_z56.trans e68.symm
    subst e68
    refine lv_aload_n hx hb dLW_law_235 rfl (lv_at hl 3 rfl) ?_
    refine lv_iload_n hx hb dLW_law_236 rfl (lv_at hl 0 rfl) ?_
    refine lv_iconst (v := 3) hx hb dLW_law_237 (by decide) ?_
    refine lv_iadd hx hb dLW_law_238 ?_
    refine lv_topi (fun x69 e70 => ?_)
    have e70 : x69 = 3 := e70.trans (by decide)
    subst e70
    refine va_sld hx hb hXs hbl hAb hS (by unfold vp_in; decide) dLW_law_239 ?_
    refine lv_topi (fun x71 e72 => ?_)
    have e72 : z59 = x71 := e_z59.trans e72.symm
    subst e72
    refine vp_callSi (W.runV (As := [.int z53, .int z56, .int z59]) (rest := [.int 0]) ⟨hx, hb, hml, hown, hz⟩ (c_MD_border l dC dI q3 b0 b1 b2 b3 b4 b5 b6 b7 b8 b9 b10 b11 b12 b13 b14 b15 b16 b17 z53 z56 z59 ) (cwV 3 hz (z_gV wd_684 wd_685 wd_686 wd_37 wd_687) rfl rfl rfl (by decide +kernel) ⟨Nat.le_of_ble_eq_true rfl, Nat.le_of_ble_eq_true rfl⟩) (zp_preV (q0 := 3) (q := (RMD, TMD, 26)) hK hP rfl rfl [3] rfl [] rfl z_true (fun _ _ _ => trivial)) rfl rfl hl.1 rfl (lv_room (Nat.le_of_ble_eq_true rfl)) dLW_law_240 ⟨Nat.le_of_ble_eq_true rfl, Nat.le_of_ble_eq_true rfl⟩) (fun r73 h_r73 => ?_)
    have h_r73 : r73 = 0 := h_r73
    subst h_r73
    refine lv_icmp_eq (tgt := 615) hx hb dLW_law_243 rfl (fun _ => ?_) (fun h => absurd (by decide) h)
    exact BACK H locs ls (lv_sub hl [0, 3] rfl) hS
  · refine lv_tableIn (off := 215) (tgt := 248) hx hb dLW_law_33 (by decide) (by decide) (by decide) rfl ?_
    refine lv_aload_n hx hb dLW_law_248 rfl (lv_at hl 2 rfl) ?_
    refine lv_aload_n hx hb dLW_law_249 rfl (lv_at hl 3 rfl) ?_
    refine lv_iload_n hx hb dLW_law_250 rfl (lv_at hl 0 rfl) ?_
    refine lv_iconst (v := 1) hx hb dLW_law_251 (by decide) ?_
    refine lv_iadd hx hb dLW_law_252 ?_
    refine lv_topi (fun x74 e75 => ?_)
    have e75 : x74 = 1 := e75.trans (by decide)
    subst e75
    refine va_sld hx hb hXs hbl hAb hS (by unfold vp_in; decide) dLW_law_253 ?_
    refine lv_topi (fun z76 e_z76 => ?_)
    refine lv_aload_n hx hb dLW_law_254 rfl (lv_at hl 3 rfl) ?_
    refine lv_iload_n hx hb dLW_law_255 rfl (lv_at hl 0 rfl) ?_
    refine lv_iconst (v := 2) hx hb dLW_law_256 (by decide) ?_
    refine lv_iadd hx hb dLW_law_257 ?_
    refine lv_topi (fun x77 e78 => ?_)
    have e78 : x77 = 2 := e78.trans (by decide)
    subst e78
    refine va_sld hx hb hXs hbl hAb hS (by unfold vp_in; decide) dLW_law_258 ?_
    refine lv_topi (fun z79 e_z79 => ?_)
    refine lv_aload_n hx hb dLW_law_259 rfl (lv_at hl 3 rfl) ?_
    refine lv_iload_n hx hb dLW_law_260 rfl (lv_at hl 0 rfl) ?_
    refine lv_iconst (v := 3) hx hb dLW_law_261 (by decide) ?_
    refine lv_iadd hx hb dLW_law_262 ?_
    refine lv_topi (fun x80 e81 => ?_)
    have e81 : x80 = 3 := e81.trans (by decide)
    subst e81
    refine va_sld hx hb hXs hbl hAb hS (by unfold vp_in; decide) dLW_law_263 ?_
    refine lv_topi (fun z82 e_z82 => ?_)
    refine z_join (fun v264 : Int32 => v264 = 0 ∨ v264 = 1) (fun v264 => W p l e (room_1) s m #[Value.ref b] below meth c H locs 35 604 Q (F0 m 272 ls (.int v264 :: [.int z79, .int z76, .ref q1]))) (fun v264 hv264 => ?_) (fun J272 => ?_)
    · refine zw_calli (wr := [(q3, .inr (6, [.int 1, .ref b0, .ref b1, .int 0, .ref b2, .ref b3, .ref b4, .ref b5, .ref b6, .ref b7, .ref b8, .ref b9, .ref b10, .ref b11, .int (-1), .int 0, .int 0, .int 0, .int 0, .int 0, .ref b12, .ref b13, .ref b14, .ref b15, .ref b16, .ref b17])), (b0, .inl (kb0, 8, .inl (fun _ => 0))), (b1, .inl (kb1, 8, .inl (fun _ => 0))), (b12, .inl (kb12, 12, .inl (fun _ => 0))), (b13, .inl (kb13, 12, .inl (fun _ => 0))), (b14, .inl (kb14, 12, .inl (fun _ => 0))), (b17, .inl (kb17, 12, .inl (fun _ => 0))), (b15, .inl (kb15, 12, .inl (fun _ => 0)))]) hK hP hD hS hA [0, 1, 2] [3, 4, 5, 6, 7, 8, 9, 10] rfl rfl (by decide) (by decide) (va_runV (As := [.int z76, .int z79, .int v264]) (rest := []) ⟨hx, hb, hml, hown, hz⟩ ((c_SC_layout l dC dI q1 g wd hh al t 0 z76 z79 v264 hv264) H.size) (cwV 3 hz (z_gV wd_367 wd_368 wd_369 wd_29 wd_370) rfl rfl rfl (by decide +kernel) ⟨Nat.le_of_ble_eq_true rfl, Nat.le_of_ble_eq_true rfl⟩) (zw_preV (q0 := 0) (q := (RSC, TSC, 6)) hK hP hD rfl rfl [0, 1, 2] (by decide) rfl [] rfl z_true (fun _ _ _ => trivial)) rfl rfl hl.1 rfl (lv_room (Nat.le_of_ble_eq_true rfl)) dLW_law_272 ⟨Nat.le_of_ble_eq_true rfl, Nat.le_of_ble_eq_true rfl⟩) (fun rx u H locs h_rx hP hD hK hS => ?_)
      have hP : va_P (dC, dI) vwCl [(q3, .inr (6, [.int 1, .ref b0, .ref b1, .int 0, .ref b2, .ref b3, .ref b4, .ref b5, .ref b6, .ref b7, .ref b8, .ref b9, .ref b10, .ref b11, .int (-1), .int 0, .int 0, .int 0, .int 0, .int 0, .ref b12, .ref b13, .ref b14, .ref b15, .ref b16, .ref b17])), (b0, .inl (kb0, 8, .inl (fun _ => 0))), (b1, .inl (kb1, 8, .inl (fun _ => 0))), (b12, .inl (kb12, 12, .inl (fun _ => 0))), (b13, .inl (kb13, 12, .inl (fun _ => 0))), (b14, .inl (kb14, 12, .inl (fun _ => 0))), (b17, .inl (kb17, 12, .inl (fun _ => 0))), (b15, .inl (kb15, 12, .inl (fun _ => 0)))] H := hP.sub [0, 1, 2, 3, 4, 5, 6, 7] rfl
      have hD : va_D A [(q3, .inr (6, [.int 1, .ref b0, .ref b1, .int 0, .ref b2, .ref b3, .ref b4, .ref b5, .ref b6, .ref b7, .ref b8, .ref b9, .ref b10, .ref b11, .int (-1), .int 0, .int 0, .int 0, .int 0, .int 0, .ref b12, .ref b13, .ref b14, .ref b15, .ref b16, .ref b17])), (b0, .inl (kb0, 8, .inl (fun _ => 0))), (b1, .inl (kb1, 8, .inl (fun _ => 0))), (b12, .inl (kb12, 12, .inl (fun _ => 0))), (b13, .inl (kb13, 12, .inl (fun _ => 0))), (b14, .inl (kb14, 12, .inl (fun _ => 0))), (b17, .inl (kb17, 12, .inl (fun _ => 0))), (b15, .inl (kb15, 12, .inl (fun _ => 0)))] := hD.sub [0, 1, 2, 3, 4, 5, 6, 7] (by decide) rfl
      have hK : va_K (dC, dI) vwCl [(kb0, .int), (kb1, .int), (kb12, .int), (kb13, .int), (kb14, .int), (kb17, .int), (kb15, .int)] s := hK
      refine lv_aload_n hx hb dLW_law_275 rfl (lv_at hl 1 rfl) ?_
      refine lv_aload_n hx hb dLW_law_276 rfl (lv_at hl 3 rfl) ?_
      refine lv_iload_n hx hb dLW_law_277 rfl (lv_at hl 0 rfl) ?_
      refine lv_iconst (v := 1) hx hb dLW_law_278 (by decide) ?_
      refine lv_iadd hx hb dLW_law_279 ?_
      refine lv_topi (fun x83 e84 => ?_)
      have e84 : x83 = 1 := e84.trans (by decide)
      subst e84
      refine va_sld hx hb hXs hbl hAb hS (by unfold vp_in; decide) dLW_law_280 ?_
      refine lv_topi (fun x85 e86 => ?_)
      have e86 : z76 = x85 := e_z76.trans e86.symm
      subst e86
      refine lv_aload_n hx hb dLW_law_281 rfl (lv_at hl 3 rfl) ?_
      refine lv_iload_n hx hb dLW_law_282 rfl (lv_at hl 0 rfl) ?_
      refine lv_iconst (v := 2) hx hb dLW_law_283 (by decide) ?_
      refine lv_iadd hx hb dLW_law_284 ?_
      refine lv_topi (fun x87 e88 => ?_)
      have e88 : x87 = 2 := e88.trans (by decide)
      subst e88
      refine va_sld hx hb hXs hbl hAb hS (by unfold vp_in; decide) dLW_law_285 ?_
      refine lv_topi (fun x89 e90 => ?_)
      have e90 : z79 = x89 := e_z79.trans e90.symm
      subst e90
      refine lv_aload_n hx hb dLW_law_286 rfl (lv_at hl 3 rfl) ?_
      refine lv_iload_n hx hb dLW_law_287 rfl (lv_at hl 0 rfl) ?_
      refine lv_iconst (v := 3) hx hb dLW_law_288 (by decide) ?_
      refine lv_iadd hx hb dLW_law_289 ?_
      refine lv_topi (fun x91 e92 => ?_)
      have e92 : x91 = 3 := e92.trans (by decide)
      subst e92
      refine va_sld hx hb hXs hbl hAb hS (by unfold vp_in; decide) dLW_law_290 ?_
      refine lv_topi (fun x93 e94 => ?_)
      have e94 : z82 = x93 := e_z82.trans e94.symm
      subst e94
      refine z_join (fun v291 : Int32 => v291 = 0 ∨ v291 = 1) (fun v291 => W p l e (room_1) s m #[Value.ref b] below meth c H locs 35 604 Q (F0 m 299 ls (.int v291 :: [.int z79, .int z76, .ref q3, .int rx]))) (fun v291 hv291 => ?_) (fun J299 => ?_)
      · refine zw_calli (wr := [(b0, .inl (kb0, 8, .inl (fun _ => 0))), (b1, .inl (kb1, 8, .inl (fun _ => 0))), (b12, .inl (kb12, 12, .inl (fun _ => 0))), (b13, .inl (kb13, 12, .inl (fun _ => 0))), (b14, .inl (kb14, 12, .inl (fun _ => 0))), (b17, .inl (kb17, 12, .inl (fun _ => 0))), (b15, .inl (kb15, 12, .inl (fun _ => 0)))]) hK hP hD hS hA [0] [1, 2, 3, 4, 5, 6, 7] rfl rfl (by decide) (by decide) (va_runV (As := [.int z76, .int z79, .int v291]) (rest := [.int rx]) ⟨hx, hb, hml, hown, hz⟩ ((c_MD_layout l dC dI q3 b0 b1 b2 b3 b4 b5 b6 b7 b8 b9 b10 b11 b12 b13 b14 b15 b16 b17 z76 z79 v291 hv291) H.size) (cwV 3 hz (z_gV wd_692 wd_693 wd_694 wd_37 wd_695) rfl rfl rfl (by decide +kernel) ⟨Nat.le_of_ble_eq_true rfl, Nat.le_of_ble_eq_true rfl⟩) (zw_preV (q0 := 0) (q := (RMD, TMD, 26)) hK hP hD rfl rfl [0] (by decide) rfl [] rfl z_true (fun _ _ _ => trivial)) rfl rfl hl.1 rfl (lv_room (Nat.le_of_ble_eq_true rfl)) dLW_law_299 ⟨Nat.le_of_ble_eq_true rfl, Nat.le_of_ble_eq_true rfl⟩) (fun rm u H locs h_rm hP hD hK hS => ?_)
        have hP : va_P (dC, dI) vwCl [(b0, .inl (kb0, 8, .inl (fun _ => 0))), (b1, .inl (kb1, 8, .inl (fun _ => 0))), (b12, .inl (kb12, 12, .inl (fun _ => 0))), (b13, .inl (kb13, 12, .inl (fun _ => 0))), (b14, .inl (kb14, 12, .inl (fun _ => 0))), (b17, .inl (kb17, 12, .inl (fun _ => 0))), (b15, .inl (kb15, 12, .inl (fun _ => 0)))] H := hP.sub [0, 1, 2, 3, 4, 5, 6] rfl
        have hD : va_D A [(b0, .inl (kb0, 8, .inl (fun _ => 0))), (b1, .inl (kb1, 8, .inl (fun _ => 0))), (b12, .inl (kb12, 12, .inl (fun _ => 0))), (b13, .inl (kb13, 12, .inl (fun _ => 0))), (b14, .inl (kb14, 12, .inl (fun _ => 0))), (b17, .inl (kb17, 12, .inl (fun _ => 0))), (b15, .inl (kb15, 12, .inl (fun _ => 0)))] := hD.sub [0, 1, 2, 3, 4, 5, 6] (by decide) rfl
        have hK : va_K (dC, dI) vwCl [(kb0, .int), (kb1, .int), (kb12, .int), (kb13, .int), (kb14, .int), (kb17, .int), (kb15, .int)] s := hK
        refine lv_icmp_eq (tgt := 615) hx hb dLW_law_302 rfl (fun _ => ?_) (fun h => absurd (z_same h_rx h_rm) h)
        exact BACK H locs ls (lv_sub hl [0, 3] rfl) hS
      · refine lv_if_eq (tgt := 298) hx hb dLW_law_291 rfl (fun h95 => ?_) (fun h95 => ?_)
        · refine lv_iconst (v := 0) hx hb dLW_law_298 (by decide) ?_
          exact J299 _ (Or.inl rfl)
        · refine lv_iconst (v := 1) hx hb dLW_law_294 (by decide) ?_
          refine lv_goto (tgt := 299) hx hb dLW_law_295 rfl ?_
          exact J299 _ (Or.inr rfl)
    · refine lv_if_eq (tgt := 271) hx hb dLW_law_264 rfl (fun h96 => ?_) (fun h96 => ?_)
      · refine lv_iconst (v := 0) hx hb dLW_law_271 (by decide) ?_
        exact J272 _ (Or.inl rfl)
      · refine lv_iconst (v := 1) hx hb dLW_law_267 (by decide) ?_
        refine lv_goto (tgt := 272) hx hb dLW_law_268 rfl ?_
        exact J272 _ (Or.inr rfl)
  · refine lv_tableIn (off := 274) (tgt := 307) hx hb dLW_law_33 (by decide) (by decide) (by decide) rfl ?_
    refine lv_aload_n hx hb dLW_law_307 rfl (lv_at hl 2 rfl) ?_
    refine zw_calli (wr := [(q3, .inr (6, [.int 1, .ref b0, .ref b1, .int 0, .ref b2, .ref b3, .ref b4, .ref b5, .ref b6, .ref b7, .ref b8, .ref b9, .ref b10, .ref b11, .int (-1), .int 0, .int 0, .int 0, .int 0, .int 0, .ref b12, .ref b13, .ref b14, .ref b15, .ref b16, .ref b17])), (b0, .inl (kb0, 8, .inl (fun _ => 0))), (b1, .inl (kb1, 8, .inl (fun _ => 0))), (b12, .inl (kb12, 12, .inl (fun _ => 0))), (b13, .inl (kb13, 12, .inl (fun _ => 0))), (b14, .inl (kb14, 12, .inl (fun _ => 0))), (b17, .inl (kb17, 12, .inl (fun _ => 0))), (b15, .inl (kb15, 12, .inl (fun _ => 0)))]) hK hP hD hS hA [0, 1, 2] [3, 4, 5, 6, 7, 8, 9, 10] rfl rfl (by decide) (by decide) (va_runV (As := []) (rest := []) ⟨hx, hb, hml, hown, hz⟩ ((c_SC_clear l dC dI q1 g wd hh al t 0 ) H.size) (cwV 0 hz (z_gV wd_371 wd_372 wd_373 wd_29 wd_374) rfl rfl rfl (by decide +kernel) ⟨Nat.le_of_ble_eq_true rfl, Nat.le_of_ble_eq_true rfl⟩) (zw_preV (q0 := 0) (q := (RSC, TSC, 6)) hK hP hD rfl rfl [0, 1, 2] (by decide) rfl [] rfl z_true (fun _ _ _ => trivial)) rfl rfl hl.1 rfl (lv_room (Nat.le_of_ble_eq_true rfl)) dLW_law_308 ⟨Nat.le_of_ble_eq_true rfl, Nat.le_of_ble_eq_true rfl⟩) (fun r97 u H locs h_r97 hP hD hK hS => ?_)
    have hP : va_P (dC, dI) vwCl [(q3, .inr (6, [.int 1, .ref b0, .ref b1, .int 0, .ref b2, .ref b3, .ref b4, .ref b5, .ref b6, .ref b7, .ref b8, .ref b9, .ref b10, .ref b11, .int (-1), .int 0, .int 0, .int 0, .int 0, .int 0, .ref b12, .ref b13, .ref b14, .ref b15, .ref b16, .ref b17])), (b0, .inl (kb0, 8, .inl (fun _ => 0))), (b1, .inl (kb1, 8, .inl (fun _ => 0))), (b12, .inl (kb12, 12, .inl (fun _ => 0))), (b13, .inl (kb13, 12, .inl (fun _ => 0))), (b14, .inl (kb14, 12, .inl (fun _ => 0))), (b17, .inl (kb17, 12, .inl (fun _ => 0))), (b15, .inl (kb15, 12, .inl (fun _ => 0)))] H := hP.sub [0, 1, 2, 3, 4, 5, 6, 7] rfl
    have hD : va_D A [(q3, .inr (6, [.int 1, .ref b0, .ref b1, .int 0, .ref b2, .ref b3, .ref b4, .ref b5, .ref b6, .ref b7, .ref b8, .ref b9, .ref b10, .ref b11, .int (-1), .int 0, .int 0, .int 0, .int 0, .int 0, .ref b12, .ref b13, .ref b14, .ref b15, .ref b16, .ref b17])), (b0, .inl (kb0, 8, .inl (fun _ => 0))), (b1, .inl (kb1, 8, .inl (fun _ => 0))), (b12, .inl (kb12, 12, .inl (fun _ => 0))), (b13, .inl (kb13, 12, .inl (fun _ => 0))), (b14, .inl (kb14, 12, .inl (fun _ => 0))), (b17, .inl (kb17, 12, .inl (fun _ => 0))), (b15, .inl (kb15, 12, .inl (fun _ => 0)))] := hD.sub [0, 1, 2, 3, 4, 5, 6, 7] (by decide) rfl
    have hK : va_K (dC, dI) vwCl [(kb0, .int), (kb1, .int), (kb12, .int), (kb13, .int), (kb14, .int), (kb17, .int), (kb15, .int)] s := hK
    have h_r97 : r97 = 0 := h_r97
    subst h_r97
    refine lv_aload_n hx hb dLW_law_311 rfl (lv_at hl 1 rfl) ?_
    refine zw_calli (wr := [(b12, .inl (kb12, 12, .inl (fun _ => 0))), (b13, .inl (kb13, 12, .inl (fun _ => 0))), (b14, .inl (kb14, 12, .inl (fun _ => 0))), (b17, .inl (kb17, 12, .inl (fun _ => 0))), (b15, .inl (kb15, 12, .inl (fun _ => 0)))]) hK hP hD hS hA [0, 1, 2] [3, 4, 5, 6, 7] rfl rfl (by decide) (by decide) (va_runV (As := []) (rest := [.int 0]) ⟨hx, hb, hml, hown, hz⟩ ((c_MD_clear l dC dI q3 b0 b1 b2 b3 b4 b5 b6 b7 b8 b9 b10 b11 b12 b13 b14 b15 b16 b17 kb0 kb1 ) H.size) (cwV 0 hz (z_gV wd_696 wd_697 wd_698 wd_37 wd_699) rfl rfl rfl (by decide +kernel) ⟨Nat.le_of_ble_eq_true rfl, Nat.le_of_ble_eq_true rfl⟩) (zw_preV (q0 := 0) (q := (RMD, TMD, 26)) hK hP hD rfl rfl [0, 1, 2] (by decide) rfl [0, 1] rfl z_true (fun _ _ _ => trivial)) rfl rfl hl.1 rfl (lv_room (Nat.le_of_ble_eq_true rfl)) dLW_law_312 ⟨Nat.le_of_ble_eq_true rfl, Nat.le_of_ble_eq_true rfl⟩) (fun r98 u H locs h_r98 hP hD hK hS => ?_)
    have hP : va_P (dC, dI) vwCl [(b12, .inl (kb12, 12, .inl (fun _ => 0))), (b13, .inl (kb13, 12, .inl (fun _ => 0))), (b14, .inl (kb14, 12, .inl (fun _ => 0))), (b17, .inl (kb17, 12, .inl (fun _ => 0))), (b15, .inl (kb15, 12, .inl (fun _ => 0)))] H := hP.sub [0, 1, 2, 3, 4] rfl
    have hD : va_D A [(b12, .inl (kb12, 12, .inl (fun _ => 0))), (b13, .inl (kb13, 12, .inl (fun _ => 0))), (b14, .inl (kb14, 12, .inl (fun _ => 0))), (b17, .inl (kb17, 12, .inl (fun _ => 0))), (b15, .inl (kb15, 12, .inl (fun _ => 0)))] := hD.sub [0, 1, 2, 3, 4] (by decide) rfl
    have hK : va_K (dC, dI) vwCl [(kb0, .int), (kb1, .int), (kb12, .int), (kb13, .int), (kb14, .int), (kb17, .int), (kb15, .int)] s := hK
    have h_r98 : r98 = 0 := h_r98
    subst h_r98
    refine lv_icmp_eq (tgt := 615) hx hb dLW_law_315 rfl (fun _ => ?_) (fun h => absurd (by decide) h)
    exact BACK H locs ls (lv_sub hl [0, 3] rfl) hS
  · refine lv_tableIn (off := 287) (tgt := 320) hx hb dLW_law_33 (by decide) (by decide) (by decide) rfl ?_
    refine lv_aload_n hx hb dLW_law_320 rfl (lv_at hl 2 rfl) ?_
    refine vp_callSi (W.runV (As := []) (rest := []) ⟨hx, hb, hml, hown, hz⟩ (c_SC_columns l dC dI q1 g wd hh al t 0 ) (cwV 0 hz (z_gV wd_387 wd_388 wd_389 wd_29 wd_390) rfl rfl rfl (by decide +kernel) ⟨Nat.le_of_ble_eq_true rfl, Nat.le_of_ble_eq_true rfl⟩) (zp_preV (q0 := 0) (q := (RSC, TSC, 6)) hK hP rfl rfl [0, 1, 2] rfl [] rfl z_true (fun _ _ _ => trivial)) rfl rfl hl.1 rfl (lv_room (Nat.le_of_ble_eq_true rfl)) dLW_law_321 ⟨Nat.le_of_ble_eq_true rfl, Nat.le_of_ble_eq_true rfl⟩) (fun r99 h_r99 => ?_)
    have h_r99 : r99 = 0 := h_r99
    subst h_r99
    refine lv_aload_n hx hb dLW_law_324 rfl (lv_at hl 1 rfl) ?_
    refine vp_callSi (W.runV (As := []) (rest := [.int 0]) ⟨hx, hb, hml, hown, hz⟩ (c_MD_columns l dC dI q3 b0 b1 b2 b3 b4 b5 b6 b7 b8 b9 b10 b11 b12 b13 b14 b15 b16 b17 ) (cwV 0 hz (z_gV wd_700 wd_701 wd_702 wd_37 wd_703) rfl rfl rfl (by decide +kernel) ⟨Nat.le_of_ble_eq_true rfl, Nat.le_of_ble_eq_true rfl⟩) (zp_preV (q0 := 3) (q := (RMD, TMD, 26)) hK hP rfl rfl [3] rfl [] rfl z_true (fun _ _ _ => trivial)) rfl rfl hl.1 rfl (lv_room (Nat.le_of_ble_eq_true rfl)) dLW_law_325 ⟨Nat.le_of_ble_eq_true rfl, Nat.le_of_ble_eq_true rfl⟩) (fun r100 h_r100 => ?_)
    have h_r100 : r100 = 0 := h_r100
    subst h_r100
    refine lv_icmp_eq (tgt := 615) hx hb dLW_law_328 rfl (fun _ => ?_) (fun h => absurd (by decide) h)
    exact BACK H locs ls (lv_sub hl [0, 3] rfl) hS
  · refine lv_tableIn (off := 300) (tgt := 333) hx hb dLW_law_33 (by decide) (by decide) (by decide) rfl ?_
    refine lv_aload_n hx hb dLW_law_333 rfl (lv_at hl 2 rfl) ?_
    refine vp_callSi (W.runV (As := []) (rest := []) ⟨hx, hb, hml, hown, hz⟩ (c_SC_rows l dC dI q1 g wd hh al t 0 ) (cwV 0 hz (z_gV wd_395 wd_396 wd_397 wd_29 wd_398) rfl rfl rfl (by decide +kernel) ⟨Nat.le_of_ble_eq_true rfl, Nat.le_of_ble_eq_true rfl⟩) (zp_preV (q0 := 0) (q := (RSC, TSC, 6)) hK hP rfl rfl [0, 1, 2] rfl [] rfl z_true (fun _ _ _ => trivial)) rfl rfl hl.1 rfl (lv_room (Nat.le_of_ble_eq_true rfl)) dLW_law_334 ⟨Nat.le_of_ble_eq_true rfl, Nat.le_of_ble_eq_true rfl⟩) (fun r101 h_r101 => ?_)
    have h_r101 : r101 = 0 := h_r101
    subst h_r101
    refine lv_aload_n hx hb dLW_law_337 rfl (lv_at hl 1 rfl) ?_
    refine vp_callSi (W.runV (As := []) (rest := [.int 0]) ⟨hx, hb, hml, hown, hz⟩ (c_MD_rows l dC dI q3 b0 b1 b2 b3 b4 b5 b6 b7 b8 b9 b10 b11 b12 b13 b14 b15 b16 b17 kb0 kb1 ) (cwV 0 hz (z_gV wd_704 wd_705 wd_706 wd_37 wd_707) rfl rfl rfl (by decide +kernel) ⟨Nat.le_of_ble_eq_true rfl, Nat.le_of_ble_eq_true rfl⟩) (zp_preV (q0 := 3) (q := (RMD, TMD, 26)) hK hP rfl rfl [3, 4, 5] rfl [0, 1] rfl z_true (fun _ _ _ => trivial)) rfl rfl hl.1 rfl (lv_room (Nat.le_of_ble_eq_true rfl)) dLW_law_338 ⟨Nat.le_of_ble_eq_true rfl, Nat.le_of_ble_eq_true rfl⟩) (fun r102 h_r102 => ?_)
    have h_r102 : r102 = 0 := h_r102
    subst h_r102
    refine lv_icmp_eq (tgt := 615) hx hb dLW_law_341 rfl (fun _ => ?_) (fun h => absurd (by decide) h)
    exact BACK H locs ls (lv_sub hl [0, 3] rfl) hS
  · refine lv_tableIn (off := 313) (tgt := 346) hx hb dLW_law_33 (by decide) (by decide) (by decide) rfl ?_
    refine lv_aload_n hx hb dLW_law_346 rfl (lv_at hl 2 rfl) ?_
    refine lv_aload_n hx hb dLW_law_347 rfl (lv_at hl 3 rfl) ?_
    refine lv_iload_n hx hb dLW_law_348 rfl (lv_at hl 0 rfl) ?_
    refine lv_iconst (v := 1) hx hb dLW_law_349 (by decide) ?_
    refine lv_iadd hx hb dLW_law_350 ?_
    refine lv_topi (fun x103 e104 => ?_)
    have e104 : x103 = 1 := e104.trans (by decide)
    subst e104
    refine va_sld hx hb hXs hbl hAb hS (by unfold vp_in; decide) dLW_law_351 ?_
    refine lv_topi (fun z105 e_z105 => ?_)
    refine lv_aload_n hx hb dLW_law_352 rfl (lv_at hl 3 rfl) ?_
    refine lv_iload_n hx hb dLW_law_353 rfl (lv_at hl 0 rfl) ?_
    refine lv_iconst (v := 2) hx hb dLW_law_354 (by decide) ?_
    refine lv_iadd hx hb dLW_law_355 ?_
    refine lv_topi (fun x106 e107 => ?_)
    have e107 : x106 = 2 := e107.trans (by decide)
    subst e107
    refine va_sld hx hb hXs hbl hAb hS (by unfold vp_in; decide) dLW_law_356 ?_
    refine lv_topi (fun z108 e_z108 => ?_)
    refine vp_callSi (W.runV (As := [.int z105, .int z108]) (rest := []) ⟨hx, hb, hml, hown, hz⟩ (c_SC_slot l dC dI q1 g wd hh al t 0 z105 z108 ) (cwV 2 hz (z_gV wd_403 wd_404 wd_405 wd_29 wd_406) rfl rfl rfl (by decide +kernel) ⟨Nat.le_of_ble_eq_true rfl, Nat.le_of_ble_eq_true rfl⟩) (zp_preV (q0 := 0) (q := (RSC, TSC, 6)) hK hP rfl rfl [0, 1, 2] rfl [] rfl z_true (fun _ _ _ => trivial)) rfl rfl hl.1 rfl (lv_room (Nat.le_of_ble_eq_true rfl)) dLW_law_357 ⟨Nat.le_of_ble_eq_true rfl, Nat.le_of_ble_eq_true rfl⟩) (fun r109 h_r109 => ?_)
    have h_r109 : r109 = (-1) := h_r109
    subst h_r109
    refine lv_aload_n hx hb dLW_law_360 rfl (lv_at hl 1 rfl) ?_
    refine lv_aload_n hx hb dLW_law_361 rfl (lv_at hl 3 rfl) ?_
    refine lv_iload_n hx hb dLW_law_362 rfl (lv_at hl 0 rfl) ?_
    refine lv_iconst (v := 1) hx hb dLW_law_363 (by decide) ?_
    refine lv_iadd hx hb dLW_law_364 ?_
    refine lv_topi (fun x110 e111 => ?_)
    have e111 : x110 = 1 := e111.trans (by decide)
    subst e111
    refine va_sld hx hb hXs hbl hAb hS (by unfold vp_in; decide) dLW_law_365 ?_
    refine lv_topi (fun x112 e113 => ?_)
    have e113 : z105 = x112 := e_z105.trans e113.symm
    subst e113
    refine lv_aload_n hx hb dLW_law_366 rfl (lv_at hl 3 rfl) ?_
    refine lv_iload_n hx hb dLW_law_367 rfl (lv_at hl 0 rfl) ?_
    refine lv_iconst (v := 2) hx hb dLW_law_368 (by decide) ?_
    refine lv_iadd hx hb dLW_law_369 ?_
    refine lv_topi (fun x114 e115 => ?_)
    have e115 : x114 = 2 := e115.trans (by decide)
    subst e115
    refine va_sld hx hb hXs hbl hAb hS (by unfold vp_in; decide) dLW_law_370 ?_
    refine lv_topi (fun x116 e117 => ?_)
    have e117 : z108 = x116 := e_z108.trans e117.symm
    subst e117
    refine vp_callSi (W.runV (As := [.int z105, .int z108]) (rest := [.int (-1)]) ⟨hx, hb, hml, hown, hz⟩ (c_MD_slot l dC dI q3 b0 b1 b2 b3 b4 b5 b6 b7 b8 b9 b10 b11 b12 b13 b14 b15 b16 b17 z105 z108 ) (cwV 2 hz (z_gV wd_708 wd_709 wd_710 wd_37 wd_711) rfl rfl rfl (by decide +kernel) ⟨Nat.le_of_ble_eq_true rfl, Nat.le_of_ble_eq_true rfl⟩) (zp_preV (q0 := 3) (q := (RMD, TMD, 26)) hK hP rfl rfl [3] rfl [] rfl z_true (fun _ _ _ => trivial)) rfl rfl hl.1 rfl (lv_room (Nat.le_of_ble_eq_true rfl)) dLW_law_371 ⟨Nat.le_of_ble_eq_true rfl, Nat.le_of_ble_eq_true rfl⟩) (fun r118 h_r118 => ?_)
    have h_r118 : r118 = (-1) := h_r118
    subst h_r118
    refine lv_icmp_eq (tgt := 615) hx hb dLW_law_374 rfl (fun _ => ?_) (fun h => absurd (by decide) h)
    exact BACK H locs ls (lv_sub hl [0, 3] rfl) hS
  · refine lv_tableIn (off := 346) (tgt := 379) hx hb dLW_law_33 (by decide) (by decide) (by decide) rfl ?_
    refine lv_aload_n hx hb dLW_law_379 rfl (lv_at hl 2 rfl) ?_
    refine vp_callSi (W.runV (As := []) (rest := []) ⟨hx, hb, hml, hown, hz⟩ (c_SC_overlaps l dC dI q1 g wd hh al t 0 ) (cwV 0 hz (z_gV wd_408 wd_409 wd_410 wd_29 wd_411) rfl rfl rfl (by decide +kernel) ⟨Nat.le_of_ble_eq_true rfl, Nat.le_of_ble_eq_true rfl⟩) (zp_preV (q0 := 0) (q := (RSC, TSC, 6)) hK hP rfl rfl [0, 1, 2] rfl [] rfl z_true (fun _ _ _ => trivial)) rfl rfl hl.1 rfl (lv_room (Nat.le_of_ble_eq_true rfl)) dLW_law_380 ⟨Nat.le_of_ble_eq_true rfl, Nat.le_of_ble_eq_true rfl⟩) (fun r119 h_r119 => ?_)
    have h_r119 : r119 = 0 := h_r119
    subst h_r119
    refine lv_aload_n hx hb dLW_law_383 rfl (lv_at hl 1 rfl) ?_
    refine vp_callSi (W.runV (As := []) (rest := [.int 0]) ⟨hx, hb, hml, hown, hz⟩ (c_MD_overlaps l dC dI q3 b0 b1 b2 b3 b4 b5 b6 b7 b8 b9 b10 b11 b12 b13 b14 b15 b16 b17 ) (cwV 0 hz (z_gV wd_720 wd_721 wd_722 wd_37 wd_723) rfl rfl rfl (by decide +kernel) ⟨Nat.le_of_ble_eq_true rfl, Nat.le_of_ble_eq_true rfl⟩) (zp_preV (q0 := 3) (q := (RMD, TMD, 26)) hK hP rfl rfl [3] rfl [] rfl z_true (fun _ _ _ => trivial)) rfl rfl hl.1 rfl (lv_room (Nat.le_of_ble_eq_true rfl)) dLW_law_384 ⟨Nat.le_of_ble_eq_true rfl, Nat.le_of_ble_eq_true rfl⟩) (fun r120 h_r120 => ?_)
    have h_r120 : r120 = 0 := h_r120
    subst h_r120
    refine lv_icmp_eq (tgt := 615) hx hb dLW_law_387 rfl (fun _ => ?_) (fun h => absurd (by decide) h)
    exact BACK H locs ls (lv_sub hl [0, 3] rfl) hS
  · refine lv_tableIn (off := 359) (tgt := 392) hx hb dLW_law_33 (by decide) (by decide) (by decide) rfl ?_
    refine lv_aload_n hx hb dLW_law_392 rfl (lv_at hl 2 rfl) ?_
    refine vp_callSi (W.runV (As := []) (rest := []) ⟨hx, hb, hml, hown, hz⟩ (c_SC_empties l dC dI q1 g wd hh al t 0 ) (cwV 0 hz (z_gV wd_420 wd_421 wd_422 wd_29 wd_423) rfl rfl rfl (by decide +kernel) ⟨Nat.le_of_ble_eq_true rfl, Nat.le_of_ble_eq_true rfl⟩) (zp_preV (q0 := 0) (q := (RSC, TSC, 6)) hK hP rfl rfl [0, 1, 2] rfl [] rfl z_true (fun _ _ _ => trivial)) rfl rfl hl.1 rfl (lv_room (Nat.le_of_ble_eq_true rfl)) dLW_law_393 ⟨Nat.le_of_ble_eq_true rfl, Nat.le_of_ble_eq_true rfl⟩) (fun r121 h_r121 => ?_)
    have h_r121 : r121 = 0 := h_r121
    subst h_r121
    refine lv_aload_n hx hb dLW_law_396 rfl (lv_at hl 1 rfl) ?_
    refine vp_callSi (W.runV (As := []) (rest := [.int 0]) ⟨hx, hb, hml, hown, hz⟩ (c_MD_empties l dC dI q3 b0 b1 b2 b3 b4 b5 b6 b7 b8 b9 b10 b11 b12 b13 b14 b15 b16 b17 kb0 kb1 ) (cwV 0 hz (z_gV wd_728 wd_729 wd_730 wd_37 wd_731) rfl rfl rfl (by decide +kernel) ⟨Nat.le_of_ble_eq_true rfl, Nat.le_of_ble_eq_true rfl⟩) (zp_preV (q0 := 3) (q := (RMD, TMD, 26)) hK hP rfl rfl [3, 4, 5] rfl [0, 1] rfl z_true (fun _ _ _ => trivial)) rfl rfl hl.1 rfl (lv_room (Nat.le_of_ble_eq_true rfl)) dLW_law_397 ⟨Nat.le_of_ble_eq_true rfl, Nat.le_of_ble_eq_true rfl⟩) (fun r122 h_r122 => ?_)
    have h_r122 : r122 = 0 := h_r122
    subst h_r122
    refine lv_icmp_eq (tgt := 615) hx hb dLW_law_400 rfl (fun _ => ?_) (fun h => absurd (by decide) h)
    exact BACK H locs ls (lv_sub hl [0, 3] rfl) hS
  · refine lv_tableIn (off := 372) (tgt := 405) hx hb dLW_law_33 (by decide) (by decide) (by decide) rfl ?_
    refine lv_aload_n hx hb dLW_law_405 rfl (lv_at hl 2 rfl) ?_
    refine lv_aload_n hx hb dLW_law_406 rfl (lv_at hl 3 rfl) ?_
    refine lv_iload_n hx hb dLW_law_407 rfl (lv_at hl 0 rfl) ?_
    refine lv_iconst (v := 1) hx hb dLW_law_408 (by decide) ?_
    refine lv_iadd hx hb dLW_law_409 ?_
    refine lv_topi (fun x123 e124 => ?_)
    have e124 : x123 = 1 := e124.trans (by decide)
    subst e124
    refine va_sld hx hb hXs hbl hAb hS (by unfold vp_in; decide) dLW_law_410 ?_
    refine lv_topi (fun z125 e_z125 => ?_)
    refine vp_callSi (W.runV (As := [.int z125]) (rest := []) ⟨hx, hb, hml, hown, hz⟩ (c_SC_span l dC dI q1 g wd hh al t 0 z125 ) (cwV 1 hz (z_gV wd_440 wd_441 wd_442 wd_29 wd_443) rfl rfl rfl (by decide +kernel) ⟨Nat.le_of_ble_eq_true rfl, Nat.le_of_ble_eq_true rfl⟩) (zp_preV (q0 := 0) (q := (RSC, TSC, 6)) hK hP rfl rfl [0, 1, 2] rfl [] rfl z_true (fun _ _ _ => trivial)) rfl rfl hl.1 rfl (lv_room (Nat.le_of_ble_eq_true rfl)) dLW_law_411 ⟨Nat.le_of_ble_eq_true rfl, Nat.le_of_ble_eq_true rfl⟩) (fun r126 h_r126 => ?_)
    have h_r126 : r126 = (-1) := h_r126
    subst h_r126
    refine lv_aload_n hx hb dLW_law_414 rfl (lv_at hl 1 rfl) ?_
    refine lv_aload_n hx hb dLW_law_415 rfl (lv_at hl 3 rfl) ?_
    refine lv_iload_n hx hb dLW_law_416 rfl (lv_at hl 0 rfl) ?_
    refine lv_iconst (v := 1) hx hb dLW_law_417 (by decide) ?_
    refine lv_iadd hx hb dLW_law_418 ?_
    refine lv_topi (fun x127 e128 => ?_)
    have e128 : x127 = 1 := e128.trans (by decide)
    subst e128
    refine va_sld hx hb hXs hbl hAb hS (by unfold vp_in; decide) dLW_law_419 ?_
    refine lv_topi (fun x129 e130 => ?_)
    have e130 : z125 = x129 := e_z125.trans e130.symm
    subst e130
    refine vp_callSi (W.runV (As := [.int z125]) (rest := [.int (-1)]) ⟨hx, hb, hml, hown, hz⟩ (c_MD_span l dC dI q3 b0 b1 b2 b3 b4 b5 b6 b7 b8 b9 b10 b11 b12 b13 b14 b15 b16 b17 z125 ) (cwV 1 hz (z_gV wd_734 wd_735 wd_736 wd_37 wd_737) rfl rfl rfl (by decide +kernel) ⟨Nat.le_of_ble_eq_true rfl, Nat.le_of_ble_eq_true rfl⟩) (zp_preV (q0 := 3) (q := (RMD, TMD, 26)) hK hP rfl rfl [3] rfl [] rfl z_true (fun _ _ _ => trivial)) rfl rfl hl.1 rfl (lv_room (Nat.le_of_ble_eq_true rfl)) dLW_law_420 ⟨Nat.le_of_ble_eq_true rfl, Nat.le_of_ble_eq_true rfl⟩) (fun r131 h_r131 => ?_)
    have h_r131 : r131 = (-1) := h_r131
    subst h_r131
    refine lv_icmp_eq (tgt := 615) hx hb dLW_law_423 rfl (fun _ => ?_) (fun h => absurd (by decide) h)
    exact BACK H locs ls (lv_sub hl [0, 3] rfl) hS
  · refine lv_tableIn (off := 395) (tgt := 428) hx hb dLW_law_33 (by decide) (by decide) (by decide) rfl ?_
    refine lv_aload_n hx hb dLW_law_428 rfl (lv_at hl 2 rfl) ?_
    refine lv_aload_n hx hb dLW_law_429 rfl (lv_at hl 3 rfl) ?_
    refine lv_iload_n hx hb dLW_law_430 rfl (lv_at hl 0 rfl) ?_
    refine lv_iconst (v := 1) hx hb dLW_law_431 (by decide) ?_
    refine lv_iadd hx hb dLW_law_432 ?_
    refine lv_topi (fun x132 e133 => ?_)
    have e133 : x132 = 1 := e133.trans (by decide)
    subst e133
    refine va_sld hx hb hXs hbl hAb hS (by unfold vp_in; decide) dLW_law_433 ?_
    refine lv_topi (fun z134 e_z134 => ?_)
    refine lv_aload_n hx hb dLW_law_434 rfl (lv_at hl 3 rfl) ?_
    refine lv_iload_n hx hb dLW_law_435 rfl (lv_at hl 0 rfl) ?_
    refine lv_iconst (v := 2) hx hb dLW_law_436 (by decide) ?_
    refine lv_iadd hx hb dLW_law_437 ?_
    refine lv_topi (fun x135 e136 => ?_)
    have e136 : x135 = 2 := e136.trans (by decide)
    subst e136
    refine va_sld hx hb hXs hbl hAb hS (by unfold vp_in; decide) dLW_law_438 ?_
    refine lv_topi (fun z137 e_z137 => ?_)
    refine vp_callSi (W.runV (As := [.int z134, .int z137]) (rest := []) ⟨hx, hb, hml, hown, hz⟩ (c_SC_wide l dC dI q1 g wd hh al t 0 z134 z137 ) (cwV 2 hz (z_gV wd_445 wd_446 wd_447 wd_29 wd_448) rfl rfl rfl (by decide +kernel) ⟨Nat.le_of_ble_eq_true rfl, Nat.le_of_ble_eq_true rfl⟩) (zp_preV (q0 := 0) (q := (RSC, TSC, 6)) hK hP rfl rfl [0, 1, 2] rfl [] rfl z_true (fun _ _ _ => trivial)) rfl rfl hl.1 rfl (lv_room (Nat.le_of_ble_eq_true rfl)) dLW_law_439 ⟨Nat.le_of_ble_eq_true rfl, Nat.le_of_ble_eq_true rfl⟩) (fun r138 h_r138 => ?_)
    have h_r138 : r138 = (-1) := h_r138
    subst h_r138
    refine lv_aload_n hx hb dLW_law_442 rfl (lv_at hl 1 rfl) ?_
    refine lv_aload_n hx hb dLW_law_443 rfl (lv_at hl 3 rfl) ?_
    refine lv_iload_n hx hb dLW_law_444 rfl (lv_at hl 0 rfl) ?_
    refine lv_iconst (v := 1) hx hb dLW_law_445 (by decide) ?_
    refine lv_iadd hx hb dLW_law_446 ?_
    refine lv_topi (fun x139 e140 => ?_)
    have e140 : x139 = 1 := e140.trans (by decide)
    subst e140
    refine va_sld hx hb hXs hbl hAb hS (by unfold vp_in; decide) dLW_law_447 ?_
    refine lv_topi (fun x141 e142 => ?_)
    have e142 : z134 = x141 := e_z134.trans e142.symm
    subst e142
    refine lv_aload_n hx hb dLW_law_448 rfl (lv_at hl 3 rfl) ?_
    refine lv_iload_n hx hb dLW_law_449 rfl (lv_at hl 0 rfl) ?_
    refine lv_iconst (v := 2) hx hb dLW_law_450 (by decide) ?_
    refine lv_iadd hx hb dLW_law_451 ?_
    refine lv_topi (fun x143 e144 => ?_)
    have e144 : x143 = 2 := e144.trans (by decide)
    subst e144
    refine va_sld hx hb hXs hbl hAb hS (by unfold vp_in; decide) dLW_law_452 ?_
    refine lv_topi (fun x145 e146 => ?_)
    have e146 : z137 = x145 := e_z137.trans e146.symm
    subst e146
    refine vp_callSi (W.runV (As := [.int z134, .int z137]) (rest := [.int (-1)]) ⟨hx, hb, hml, hown, hz⟩ (c_MD_wide l dC dI q3 b0 b1 b2 b3 b4 b5 b6 b7 b8 b9 b10 b11 b12 b13 b14 b15 b16 b17 z134 z137 ) (cwV 2 hz (z_gV wd_739 wd_740 wd_741 wd_37 wd_742) rfl rfl rfl (by decide +kernel) ⟨Nat.le_of_ble_eq_true rfl, Nat.le_of_ble_eq_true rfl⟩) (zp_preV (q0 := 3) (q := (RMD, TMD, 26)) hK hP rfl rfl [3] rfl [] rfl z_true (fun _ _ _ => trivial)) rfl rfl hl.1 rfl (lv_room (Nat.le_of_ble_eq_true rfl)) dLW_law_453 ⟨Nat.le_of_ble_eq_true rfl, Nat.le_of_ble_eq_true rfl⟩) (fun r147 h_r147 => ?_)
    have h_r147 : r147 = (-1) := h_r147
    subst h_r147
    refine lv_icmp_eq (tgt := 615) hx hb dLW_law_456 rfl (fun _ => ?_) (fun h => absurd (by decide) h)
    exact BACK H locs ls (lv_sub hl [0, 3] rfl) hS
  · refine lv_tableIn (off := 428) (tgt := 461) hx hb dLW_law_33 (by decide) (by decide) (by decide) rfl ?_
    refine lv_aload_n hx hb dLW_law_461 rfl (lv_at hl 2 rfl) ?_
    refine lv_aload_n hx hb dLW_law_462 rfl (lv_at hl 3 rfl) ?_
    refine lv_iload_n hx hb dLW_law_463 rfl (lv_at hl 0 rfl) ?_
    refine lv_iconst (v := 1) hx hb dLW_law_464 (by decide) ?_
    refine lv_iadd hx hb dLW_law_465 ?_
    refine lv_topi (fun x148 e149 => ?_)
    have e149 : x148 = 1 := e149.trans (by decide)
    subst e149
    refine va_sld hx hb hXs hbl hAb hS (by unfold vp_in; decide) dLW_law_466 ?_
    refine lv_topi (fun z150 e_z150 => ?_)
    refine vp_callSi (W.runV (As := [.int z150]) (rest := []) ⟨hx, hb, hml, hown, hz⟩ (c_SC_high l dC dI q1 g wd hh al t 0 z150 ) (cwV 1 hz (z_gV wd_527 wd_528 wd_529 wd_29 wd_530) rfl rfl rfl (by decide +kernel) ⟨Nat.le_of_ble_eq_true rfl, Nat.le_of_ble_eq_true rfl⟩) (zp_preV (q0 := 0) (q := (RSC, TSC, 6)) hK hP rfl rfl [0, 1, 2] rfl [] rfl z_true (fun _ _ _ => trivial)) rfl rfl hl.1 rfl (lv_room (Nat.le_of_ble_eq_true rfl)) dLW_law_467 ⟨Nat.le_of_ble_eq_true rfl, Nat.le_of_ble_eq_true rfl⟩) (fun r151 h_r151 => ?_)
    have h_r151 : r151 = (-1) := h_r151
    subst h_r151
    refine lv_aload_n hx hb dLW_law_470 rfl (lv_at hl 1 rfl) ?_
    refine lv_aload_n hx hb dLW_law_471 rfl (lv_at hl 3 rfl) ?_
    refine lv_iload_n hx hb dLW_law_472 rfl (lv_at hl 0 rfl) ?_
    refine lv_iconst (v := 1) hx hb dLW_law_473 (by decide) ?_
    refine lv_iadd hx hb dLW_law_474 ?_
    refine lv_topi (fun x152 e153 => ?_)
    have e153 : x152 = 1 := e153.trans (by decide)
    subst e153
    refine va_sld hx hb hXs hbl hAb hS (by unfold vp_in; decide) dLW_law_475 ?_
    refine lv_topi (fun x154 e155 => ?_)
    have e155 : z150 = x154 := e_z150.trans e155.symm
    subst e155
    refine vp_callSi (W.runV (As := [.int z150]) (rest := [.int (-1)]) ⟨hx, hb, hml, hown, hz⟩ (c_MD_high l dC dI q3 b0 b1 b2 b3 b4 b5 b6 b7 b8 b9 b10 b11 b12 b13 b14 b15 b16 b17 kb0 kb1 z150 ) (cwV 1 hz (z_gV wd_777 wd_778 wd_779 wd_37 wd_780) rfl rfl rfl (by decide +kernel) ⟨Nat.le_of_ble_eq_true rfl, Nat.le_of_ble_eq_true rfl⟩) (zp_preV (q0 := 3) (q := (RMD, TMD, 26)) hK hP rfl rfl [3, 4, 5] rfl [0, 1] rfl z_true (fun _ _ _ => trivial)) rfl rfl hl.1 rfl (lv_room (Nat.le_of_ble_eq_true rfl)) dLW_law_476 ⟨Nat.le_of_ble_eq_true rfl, Nat.le_of_ble_eq_true rfl⟩) (fun r156 h_r156 => ?_)
    have h_r156 : r156 = (-1) := h_r156
    subst h_r156
    refine lv_icmp_eq (tgt := 615) hx hb dLW_law_479 rfl (fun _ => ?_) (fun h => absurd (by decide) h)
    exact BACK H locs ls (lv_sub hl [0, 3] rfl) hS
  · refine lv_tableIn (off := 451) (tgt := 484) hx hb dLW_law_33 (by decide) (by decide) (by decide) rfl ?_
    refine lv_aload_n hx hb dLW_law_484 rfl (lv_at hl 2 rfl) ?_
    refine lv_aload_n hx hb dLW_law_485 rfl (lv_at hl 3 rfl) ?_
    refine lv_iload_n hx hb dLW_law_486 rfl (lv_at hl 0 rfl) ?_
    refine lv_iconst (v := 1) hx hb dLW_law_487 (by decide) ?_
    refine lv_iadd hx hb dLW_law_488 ?_
    refine lv_topi (fun x157 e158 => ?_)
    have e158 : x157 = 1 := e158.trans (by decide)
    subst e158
    refine va_sld hx hb hXs hbl hAb hS (by unfold vp_in; decide) dLW_law_489 ?_
    refine lv_topi (fun z159 e_z159 => ?_)
    refine lv_aload_n hx hb dLW_law_490 rfl (lv_at hl 3 rfl) ?_
    refine lv_iload_n hx hb dLW_law_491 rfl (lv_at hl 0 rfl) ?_
    refine lv_iconst (v := 2) hx hb dLW_law_492 (by decide) ?_
    refine lv_iadd hx hb dLW_law_493 ?_
    refine lv_topi (fun x160 e161 => ?_)
    have e161 : x160 = 2 := e161.trans (by decide)
    subst e161
    refine va_sld hx hb hXs hbl hAb hS (by unfold vp_in; decide) dLW_law_494 ?_
    refine lv_topi (fun z162 e_z162 => ?_)
    refine vp_callSi (W.runV (As := [.int z159, .int z162]) (rest := []) ⟨hx, hb, hml, hown, hz⟩ (c_SC_place l dC dI q1 g wd hh al t 0 z159 z162 ) (cwV 2 hz (z_gV wd_544 wd_545 wd_546 wd_29 wd_547) rfl rfl rfl (by decide +kernel) ⟨Nat.le_of_ble_eq_true rfl, Nat.le_of_ble_eq_true rfl⟩) (zp_preV (q0 := 0) (q := (RSC, TSC, 6)) hK hP rfl rfl [0, 1, 2] rfl [] rfl z_true (fun _ _ _ => trivial)) rfl rfl hl.1 rfl (lv_room (Nat.le_of_ble_eq_true rfl)) dLW_law_495 ⟨Nat.le_of_ble_eq_true rfl, Nat.le_of_ble_eq_true rfl⟩) (fun r163 h_r163 => ?_)
    have h_r163 : r163 = (-1) := h_r163
    subst h_r163
    refine lv_aload_n hx hb dLW_law_498 rfl (lv_at hl 1 rfl) ?_
    refine lv_aload_n hx hb dLW_law_499 rfl (lv_at hl 3 rfl) ?_
    refine lv_iload_n hx hb dLW_law_500 rfl (lv_at hl 0 rfl) ?_
    refine lv_iconst (v := 1) hx hb dLW_law_501 (by decide) ?_
    refine lv_iadd hx hb dLW_law_502 ?_
    refine lv_topi (fun x164 e165 => ?_)
    have e165 : x164 = 1 := e165.trans (by decide)
    subst e165
    refine va_sld hx hb hXs hbl hAb hS (by unfold vp_in; decide) dLW_law_503 ?_
    refine lv_topi (fun x166 e167 => ?_)
    have e167 : z159 = x166 := e_z159.trans e167.symm
    subst e167
    refine lv_aload_n hx hb dLW_law_504 rfl (lv_at hl 3 rfl) ?_
    refine lv_iload_n hx hb dLW_law_505 rfl (lv_at hl 0 rfl) ?_
    refine lv_iconst (v := 2) hx hb dLW_law_506 (by decide) ?_
    refine lv_iadd hx hb dLW_law_507 ?_
    refine lv_topi (fun x168 e169 => ?_)
    have e169 : x168 = 2 := e169.trans (by decide)
    subst e169
    refine va_sld hx hb hXs hbl hAb hS (by unfold vp_in; decide) dLW_law_508 ?_
    refine lv_topi (fun x170 e171 => ?_)
    have e171 : z162 = x170 := e_z162.trans e171.symm
    subst e171
    refine vp_callSi (W.runV (As := [.int z159, .int z162]) (rest := [.int (-1)]) ⟨hx, hb, hml, hown, hz⟩ (c_MD_place l dC dI q3 b0 b1 b2 b3 b4 b5 b6 b7 b8 b9 b10 b11 b12 b13 b14 b15 b16 b17 z159 z162 ) (cwV 2 hz (z_gV wd_785 wd_786 wd_787 wd_37 wd_788) rfl rfl rfl (by decide +kernel) ⟨Nat.le_of_ble_eq_true rfl, Nat.le_of_ble_eq_true rfl⟩) (zp_preV (q0 := 3) (q := (RMD, TMD, 26)) hK hP rfl rfl [3] rfl [] rfl z_true (fun _ _ _ => trivial)) rfl rfl hl.1 rfl (lv_room (Nat.le_of_ble_eq_true rfl)) dLW_law_509 ⟨Nat.le_of_ble_eq_true rfl, Nat.le_of_ble_eq_true rfl⟩) (fun r172 h_r172 => ?_)
    have h_r172 : r172 = (-1) := h_r172
    subst h_r172
    refine lv_icmp_eq (tgt := 615) hx hb dLW_law_512 rfl (fun _ => ?_) (fun h => absurd (by decide) h)
    exact BACK H locs ls (lv_sub hl [0, 3] rfl) hS
  · refine lv_tableIn (off := 484) (tgt := 517) hx hb dLW_law_33 (by decide) (by decide) (by decide) rfl ?_
    refine lv_aload_n hx hb dLW_law_517 rfl (lv_at hl 2 rfl) ?_
    refine lv_aload_n hx hb dLW_law_518 rfl (lv_at hl 3 rfl) ?_
    refine lv_iload_n hx hb dLW_law_519 rfl (lv_at hl 0 rfl) ?_
    refine lv_iconst (v := 1) hx hb dLW_law_520 (by decide) ?_
    refine lv_iadd hx hb dLW_law_521 ?_
    refine lv_topi (fun x173 e174 => ?_)
    have e174 : x173 = 1 := e174.trans (by decide)
    subst e174
    refine va_sld hx hb hXs hbl hAb hS (by unfold vp_in; decide) dLW_law_522 ?_
    refine lv_topi (fun z175 e_z175 => ?_)
    refine z_join (fun v523 : Int32 => v523 = 0 ∨ v523 = 1) (fun v523 => W p l e (room_1) s m #[Value.ref b] below meth c H locs 35 604 Q (F0 m 531 ls (.int v523 :: [.ref q1]))) (fun v523 hv523 => ?_) (fun J531 => ?_)
    · refine vp_callSi (W.runV (As := [.int v523]) (rest := []) ⟨hx, hb, hml, hown, hz⟩ (c_SC_size l dC dI q1 g wd hh al t 0 v523 ) (cwV 1 hz (z_gV wd_555 wd_556 wd_557 wd_29 wd_558) rfl rfl rfl (by decide +kernel) ⟨Nat.le_of_ble_eq_true rfl, Nat.le_of_ble_eq_true rfl⟩) (zp_preV (q0 := 0) (q := (RSC, TSC, 6)) hK hP rfl rfl [0, 1, 2] rfl [] rfl z_true (fun _ _ _ => trivial)) rfl rfl hl.1 rfl (lv_room (Nat.le_of_ble_eq_true rfl)) dLW_law_531 ⟨Nat.le_of_ble_eq_true rfl, Nat.le_of_ble_eq_true rfl⟩) (fun r176 h_r176 => ?_)
      have h_r176 : r176 = 0 := h_r176
      subst h_r176
      refine lv_aload_n hx hb dLW_law_534 rfl (lv_at hl 1 rfl) ?_
      refine lv_aload_n hx hb dLW_law_535 rfl (lv_at hl 3 rfl) ?_
      refine lv_iload_n hx hb dLW_law_536 rfl (lv_at hl 0 rfl) ?_
      refine lv_iconst (v := 1) hx hb dLW_law_537 (by decide) ?_
      refine lv_iadd hx hb dLW_law_538 ?_
      refine lv_topi (fun x177 e178 => ?_)
      have e178 : x177 = 1 := e178.trans (by decide)
      subst e178
      refine va_sld hx hb hXs hbl hAb hS (by unfold vp_in; decide) dLW_law_539 ?_
      refine lv_topi (fun x179 e180 => ?_)
      have e180 : z175 = x179 := e_z175.trans e180.symm
      subst e180
      refine z_join (fun v540 : Int32 => v540 = 0 ∨ v540 = 1) (fun v540 => W p l e (room_1) s m #[Value.ref b] below meth c H locs 35 604 Q (F0 m 548 ls (.int v540 :: [.ref q3, .int 0]))) (fun v540 hv540 => ?_) (fun J548 => ?_)
      · refine zw_calli (wr := [(q1, .inr (0, [.ref g, .ref wd, .ref hh, .int 0, .int 0, .int 0])), (g, .inr (1, [.ref al, .int 1, .int 0, .int 0, .int 0, .int 0])), (al, .inr (2, [.ref t, .int 0, .int 0]))]) hK hP hD hS hA [3, 4, 5, 6, 7, 8, 9, 10] [0, 1, 2] rfl rfl (by decide) (by decide) (va_runV (As := [.int v540]) (rest := [.int 0]) ⟨hx, hb, hml, hown, hz⟩ ((c_MD_size l dC dI q3 b0 b1 b2 b3 b4 b5 b6 b7 b8 b9 b10 b11 b12 b13 b14 b15 b16 b17 kb0 kb1 kb12 kb13 kb14 kb17 kb15 (fun _ => 0) (fun _ => 0) (fun _ => 0) (fun _ => 0) (fun _ => 0) v540 ) H.size) (cwV 1 hz (z_gV wd_789 wd_790 wd_791 wd_37 wd_792) rfl rfl rfl (by decide +kernel) ⟨Nat.le_of_ble_eq_true rfl, Nat.le_of_ble_eq_true rfl⟩) (zw_preV (q0 := 3) (q := (RMD, TMD, 26)) hK hP hD rfl rfl [3, 4, 5, 6, 7, 8, 9, 10] (by decide) rfl [0, 1, 2, 3, 4, 5, 6] rfl z_true (fun _ _ _ => trivial)) rfl rfl hl.1 rfl (lv_room (Nat.le_of_ble_eq_true rfl)) dLW_law_548 ⟨Nat.le_of_ble_eq_true rfl, Nat.le_of_ble_eq_true rfl⟩) (fun r181 u H locs h_r181 hP hD hK hS => ?_)
        have hP : va_P (dC, dI) vwCl [(q1, .inr (0, [.ref g, .ref wd, .ref hh, .int 0, .int 0, .int 0])), (g, .inr (1, [.ref al, .int 1, .int 0, .int 0, .int 0, .int 0])), (al, .inr (2, [.ref t, .int 0, .int 0]))] H := hP.sub [0, 1, 2] rfl
        have hD : va_D A [(q1, .inr (0, [.ref g, .ref wd, .ref hh, .int 0, .int 0, .int 0])), (g, .inr (1, [.ref al, .int 1, .int 0, .int 0, .int 0, .int 0])), (al, .inr (2, [.ref t, .int 0, .int 0]))] := hD.sub [0, 1, 2] (by decide) rfl
        have hK : va_K (dC, dI) vwCl [(kb0, .int), (kb1, .int), (kb12, .int), (kb13, .int), (kb14, .int), (kb17, .int), (kb15, .int)] s := hK
        have h_r181 : r181 = 0 := h_r181
        subst h_r181
        refine lv_icmp_eq (tgt := 615) hx hb dLW_law_551 rfl (fun _ => ?_) (fun h => absurd (by decide) h)
        exact BACK H locs ls (lv_sub hl [0, 3] rfl) hS
      · refine lv_if_eq (tgt := 547) hx hb dLW_law_540 rfl (fun h182 => ?_) (fun h182 => ?_)
        · refine lv_iconst (v := 0) hx hb dLW_law_547 (by decide) ?_
          exact J548 _ (Or.inl rfl)
        · refine lv_iconst (v := 1) hx hb dLW_law_543 (by decide) ?_
          refine lv_goto (tgt := 548) hx hb dLW_law_544 rfl ?_
          exact J548 _ (Or.inr rfl)
    · refine lv_if_eq (tgt := 530) hx hb dLW_law_523 rfl (fun h183 => ?_) (fun h183 => ?_)
      · refine lv_iconst (v := 0) hx hb dLW_law_530 (by decide) ?_
        exact J531 _ (Or.inl rfl)
      · refine lv_iconst (v := 1) hx hb dLW_law_526 (by decide) ?_
        refine lv_goto (tgt := 531) hx hb dLW_law_527 rfl ?_
        exact J531 _ (Or.inr rfl)
  · refine lv_tableIn (off := 523) (tgt := 556) hx hb dLW_law_33 (by decide) (by decide) (by decide) rfl ?_
    refine lv_aload_n hx hb dLW_law_556 rfl (lv_at hl 2 rfl) ?_
    refine lv_aload_n hx hb dLW_law_557 rfl (lv_at hl 3 rfl) ?_
    refine lv_iload_n hx hb dLW_law_558 rfl (lv_at hl 0 rfl) ?_
    refine lv_iconst (v := 1) hx hb dLW_law_559 (by decide) ?_
    refine lv_iadd hx hb dLW_law_560 ?_
    refine lv_topi (fun x184 e185 => ?_)
    have e185 : x184 = 1 := e185.trans (by decide)
    subst e185
    refine va_sld hx hb hXs hbl hAb hS (by unfold vp_in; decide) dLW_law_561 ?_
    refine lv_topi (fun z186 e_z186 => ?_)
    refine lv_aload_n hx hb dLW_law_562 rfl (lv_at hl 3 rfl) ?_
    refine lv_iload_n hx hb dLW_law_563 rfl (lv_at hl 0 rfl) ?_
    refine lv_iconst (v := 2) hx hb dLW_law_564 (by decide) ?_
    refine lv_iadd hx hb dLW_law_565 ?_
    refine lv_topi (fun x187 e188 => ?_)
    have e188 : x187 = 2 := e188.trans (by decide)
    subst e188
    refine va_sld hx hb hXs hbl hAb hS (by unfold vp_in; decide) dLW_law_566 ?_
    refine lv_topi (fun z189 e_z189 => ?_)
    refine lv_aload_n hx hb dLW_law_567 rfl (lv_at hl 3 rfl) ?_
    refine lv_iload_n hx hb dLW_law_568 rfl (lv_at hl 0 rfl) ?_
    refine lv_iconst (v := 3) hx hb dLW_law_569 (by decide) ?_
    refine lv_iadd hx hb dLW_law_570 ?_
    refine lv_topi (fun x190 e191 => ?_)
    have e191 : x190 = 3 := e191.trans (by decide)
    subst e191
    refine va_sld hx hb hXs hbl hAb hS (by unfold vp_in; decide) dLW_law_571 ?_
    refine lv_topi (fun z192 e_z192 => ?_)
    refine z_join (fun v572 : Int32 => v572 = 0 ∨ v572 = 1) (fun v572 => W p l e (room_1) s m #[Value.ref b] below meth c H locs 35 604 Q (F0 m 580 ls (.int v572 :: [.int z189, .int z186, .ref q1]))) (fun v572 hv572 => ?_) (fun J580 => ?_)
    · refine vp_callSi (W.runV (As := [.int z186, .int z189, .int v572]) (rest := []) ⟨hx, hb, hml, hown, hz⟩ (c_SC_edge l dC dI q1 g wd hh al t 0 z186 z189 v572 ) (cwV 3 hz (z_gV wd_559 wd_560 wd_561 wd_29 wd_562) rfl rfl rfl (by decide +kernel) ⟨Nat.le_of_ble_eq_true rfl, Nat.le_of_ble_eq_true rfl⟩) (zp_preV (q0 := 0) (q := (RSC, TSC, 6)) hK hP rfl rfl [0, 1, 2] rfl [] rfl zN_blind (zN_call hN)) rfl rfl hl.1 rfl (lv_room (Nat.le_of_ble_eq_true rfl)) dLW_law_580 ⟨Nat.le_of_ble_eq_true rfl, Nat.le_of_ble_eq_true rfl⟩) (fun r193 h_r193 => ?_)
      have h_r193 : r193 = (-1) := h_r193
      subst h_r193
      refine lv_aload_n hx hb dLW_law_583 rfl (lv_at hl 1 rfl) ?_
      refine lv_aload_n hx hb dLW_law_584 rfl (lv_at hl 3 rfl) ?_
      refine lv_iload_n hx hb dLW_law_585 rfl (lv_at hl 0 rfl) ?_
      refine lv_iconst (v := 1) hx hb dLW_law_586 (by decide) ?_
      refine lv_iadd hx hb dLW_law_587 ?_
      refine lv_topi (fun x194 e195 => ?_)
      have e195 : x194 = 1 := e195.trans (by decide)
      subst e195
      refine va_sld hx hb hXs hbl hAb hS (by unfold vp_in; decide) dLW_law_588 ?_
      refine lv_topi (fun x196 e197 => ?_)
      have e197 : z186 = x196 := e_z186.trans e197.symm
      subst e197
      refine lv_aload_n hx hb dLW_law_589 rfl (lv_at hl 3 rfl) ?_
      refine lv_iload_n hx hb dLW_law_590 rfl (lv_at hl 0 rfl) ?_
      refine lv_iconst (v := 2) hx hb dLW_law_591 (by decide) ?_
      refine lv_iadd hx hb dLW_law_592 ?_
      refine lv_topi (fun x198 e199 => ?_)
      have e199 : x198 = 2 := e199.trans (by decide)
      subst e199
      refine va_sld hx hb hXs hbl hAb hS (by unfold vp_in; decide) dLW_law_593 ?_
      refine lv_topi (fun x200 e201 => ?_)
      have e201 : z189 = x200 := e_z189.trans e201.symm
      subst e201
      refine lv_aload_n hx hb dLW_law_594 rfl (lv_at hl 3 rfl) ?_
      refine lv_iload_n hx hb dLW_law_595 rfl (lv_at hl 0 rfl) ?_
      refine lv_iconst (v := 3) hx hb dLW_law_596 (by decide) ?_
      refine lv_iadd hx hb dLW_law_597 ?_
      refine lv_topi (fun x202 e203 => ?_)
      have e203 : x202 = 3 := e203.trans (by decide)
      subst e203
      refine va_sld hx hb hXs hbl hAb hS (by unfold vp_in; decide) dLW_law_598 ?_
      refine lv_topi (fun x204 e205 => ?_)
      have e205 : z192 = x204 := e_z192.trans e205.symm
      subst e205
      refine z_join (fun v599 : Int32 => v599 = 0 ∨ v599 = 1) (fun v599 => W p l e (room_1) s m #[Value.ref b] below meth c H locs 35 604 Q (F0 m 607 ls (.int v599 :: [.int z189, .int z186, .ref q3, .int (-1)]))) (fun v599 hv599 => ?_) (fun J607 => ?_)
      · refine vp_callSi (W.runV (As := [.int z186, .int z189, .int v599]) (rest := [.int (-1)]) ⟨hx, hb, hml, hown, hz⟩ (c_MD_edge l dC dI q3 b0 b1 b2 b3 b4 b5 b6 b7 b8 b9 b10 b11 b12 b13 b14 b15 b16 b17 kb0 kb1 z186 z189 v599 ) (cwV 3 hz (z_gV wd_793 wd_794 wd_795 wd_37 wd_796) rfl rfl rfl (by decide +kernel) ⟨Nat.le_of_ble_eq_true rfl, Nat.le_of_ble_eq_true rfl⟩) (zp_preV (q0 := 3) (q := (RMD, TMD, 26)) hK hP rfl rfl [3, 4, 5] rfl [0, 1] rfl z_true (fun _ _ _ => trivial)) rfl rfl hl.1 rfl (lv_room (Nat.le_of_ble_eq_true rfl)) dLW_law_607 ⟨Nat.le_of_ble_eq_true rfl, Nat.le_of_ble_eq_true rfl⟩) (fun r206 h_r206 => ?_)
        have h_r206 : r206 = (-1) := h_r206
        subst h_r206
        refine lv_icmp_eq (tgt := 615) hx hb dLW_law_610 rfl (fun _ => ?_) (fun h => absurd (by decide) h)
        exact BACK H locs ls (lv_sub hl [0, 3] rfl) hS
      · refine lv_if_eq (tgt := 606) hx hb dLW_law_599 rfl (fun h207 => ?_) (fun h207 => ?_)
        · refine lv_iconst (v := 0) hx hb dLW_law_606 (by decide) ?_
          exact J607 _ (Or.inl rfl)
        · refine lv_iconst (v := 1) hx hb dLW_law_602 (by decide) ?_
          refine lv_goto (tgt := 607) hx hb dLW_law_603 rfl ?_
          exact J607 _ (Or.inr rfl)
    · refine lv_if_eq (tgt := 579) hx hb dLW_law_572 rfl (fun h208 => ?_) (fun h208 => ?_)
      · refine lv_iconst (v := 0) hx hb dLW_law_579 (by decide) ?_
        exact J580 _ (Or.inl rfl)
      · refine lv_iconst (v := 1) hx hb dLW_law_575 (by decide) ?_
        refine lv_goto (tgt := 580) hx hb dLW_law_576 rfl ?_
        exact J580 _ (Or.inr rfl)
  · refine lv_tableOut (tgt := 615) hx hb dLW_law_33 (Or.inr (by rw [nI_toInt (by omega)]; omega)) rfl ?_
    exact BACK H locs ls (lv_sub hl [0, 3] rfl) hS
