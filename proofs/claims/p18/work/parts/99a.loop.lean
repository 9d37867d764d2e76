set_option maxHeartbeats 8000000 in
set_option maxRecDepth 100000 in
theorem lawH_N {p : Program} (l : Launch) {e : Env} {s : State} {m : MethodId} {below : List Frame} {meth : Method} {c : Code} {Q : State → Prop} {A : Nat → Prop} {dC : Nat → ClassId} {dI : Nat → Nat → Nat} {b L t mi : Nat} {ty : FieldType} {xs : Nat → Int32} {h0 g al wd hh l0 l1 l2 l3 p0 p1 p2 p3 ln pn h1 b0 b1 b2 b3 b4 b5 b6 b7 b8 b9 b10 b11 b12 b13 b14 b15 b16 b17 : Nat} {kp0 kp1 kp2 kp3 kn kb0 kb1 kb2 kb3 kb4 kb5 kb6 kb7 kb8 kb9 kb10 kb11 kb12 kb13 kb14 kb15 kb16 kb17 : ClassId} (hx : p.tables.exec = Jvm.exec) (hb : c.code = code) (hml : c.maxLocals = 4) (hown : s.vm.findClass "SpannedCellsLaw" = some m.cls) (hz : ∀ w9 ∈ zT, w9.before #[Value.ref b] s = true) (hXs : va_X b L xs s s.heap) (hbl : b < s.heap.size) (hAb : ¬ A b) (hA : ∀ q : Nat, s.heap.size ≤ q → A q) (hN : zN s) (hX : zY t ty mi A s) {i cl sl : Nat} (hL : L ≤ 3072) (hi : i ≤ 3072) (fin : ∀ (H : Heap) (locs : List Loc) (ls : Array Slot), va_S A s.heap H locs → W p l e room_1 s m #[Value.ref b] below meth c H locs cl sl Q (F0 m 621 ls [])) (next : i + 6 ≤ L → zAtN p l e s m below meth c Q A dC dI b h0 g al wd hh l0 l1 l2 l3 p0 p1 p2 p3 ln pn h1 b0 b1 b2 b3 b4 b5 b6 b7 b8 b9 b10 b11 b12 b13 b14 b15 b16 b17 kp0 kp1 kp2 kp3 kn kb0 kb1 kb2 kb3 kb4 kb5 kb6 kb7 kb8 kb9 kb10 kb11 kb12 kb13 kb14 kb15 kb16 kb17 i cl sl 27) : zAtN p l e s m below meth c Q A dC dI b h0 g al wd hh l0 l1 l2 l3 p0 p1 p2 p3 ln pn h1 b0 b1 b2 b3 b4 b5 b6 b7 b8 b9 b10 b11 b12 b13 b14 b15 b16 b17 kp0 kp1 kp2 kp3 kn kb0 kb1 kb2 kb3 kb4 kb5 kb6 kb7 kb8 kb9 kb10 kb11 kb12 kb13 kb14 kb15 kb16 kb17 i cl sl 18 := by
  intro ed cE n cap aa ad d ce mo gr gs bg re sp gp fx mm rg rn ro sq gq fq g0 g1 g2 g3 gn v0 v1 v2 v3 v4 v5 H locs ls hI hcp ha hl hP hD hK hS
  have hl : lv_has ls 4 [(3, .int (nI i)), (2, .ref h1), (1, .ref h0), (0, .ref b)] := hl
  refine lv_iload_n hx hb dLW_law_18 rfl (lv_at hl 0 rfl) ?_
  refine lv_aload_n hx hb dLW_law_19 rfl (lv_at hl 3 rfl) ?_
  refine va_slen hx hb hXs hbl hAb hS dLW_law_20 ?_
  refine W.eq (g2 := F0 m 21 ls [.int (nI L), .int (nI i)]) rfl ?_
  refine lv_bipush (v := nI 6) hx hb dLW_law_21 (by decide) ?_
  refine lv_isub hx hb dLW_law_23 ?_
  have t1 := nI_toInt (n := i) (by omega)
  have t2 := pk_sub_toInt (a := L) (b := 6) (by omega) (by omega)
  refine lv_icmp_gt (tgt := 621) hx hb dLW_law_24 rfl (fun h1 => ?_) (fun h1 => ?_)
  · exact fin H locs ls hS
  · have h1 := z_nlt h1
    exact next (by omega) ed cE n cap aa ad d ce mo gr gs bg re sp gp fx mm rg rn ro sq gq fq g0 g1 g2 g3 gn v0 v1 v2 v3 v4 v5 H locs ls hI hcp ha hl hP hD hK hS

set_option maxHeartbeats 8000000 in
set_option maxRecDepth 100000 in
theorem lawB_N {p : Program} (l : Launch) {e : Env} {s : State} {m : MethodId} {below : List Frame} {meth : Method} {c : Code} {Q : State → Prop} {A : Nat → Prop} {dC : Nat → ClassId} {dI : Nat → Nat → Nat} {b L t mi : Nat} {ty : FieldType} {xs : Nat → Int32} {h0 g al wd hh l0 l1 l2 l3 p0 p1 p2 p3 ln pn h1 b0 b1 b2 b3 b4 b5 b6 b7 b8 b9 b10 b11 b12 b13 b14 b15 b16 b17 : Nat} {kp0 kp1 kp2 kp3 kn kb0 kb1 kb2 kb3 kb4 kb5 kb6 kb7 kb8 kb9 kb10 kb11 kb12 kb13 kb14 kb15 kb16 kb17 : ClassId} (hx : p.tables.exec = Jvm.exec) (hb : c.code = code) (hml : c.maxLocals = 4) (hown : s.vm.findClass "SpannedCellsLaw" = some m.cls) (hz : ∀ w9 ∈ zT, w9.before #[Value.ref b] s = true) (hXs : va_X b L xs s s.heap) (hbl : b < s.heap.size) (hAb : ¬ A b) (hA : ∀ q : Nat, s.heap.size ≤ q → A q) (hN : zN s) (hX : zY t ty mi A s) {i cl sl : Nat} (nx : zAtN p l e s m below meth c Q A dC dI b h0 g al wd hh l0 l1 l2 l3 p0 p1 p2 p3 ln pn h1 b0 b1 b2 b3 b4 b5 b6 b7 b8 b9 b10 b11 b12 b13 b14 b15 b16 b17 kp0 kp1 kp2 kp3 kn kb0 kb1 kb2 kb3 kb4 kb5 kb6 kb7 kb8 kb9 kb10 kb11 kb12 kb13 kb14 kb15 kb16 kb17 (i + 6) cl sl 18) : zAtN p l e s m below meth c Q A dC dI b h0 g al wd hh l0 l1 l2 l3 p0 p1 p2 p3 ln pn h1 b0 b1 b2 b3 b4 b5 b6 b7 b8 b9 b10 b11 b12 b13 b14 b15 b16 b17 kp0 kp1 kp2 kp3 kn kb0 kb1 kb2 kb3 kb4 kb5 kb6 kb7 kb8 kb9 kb10 kb11 kb12 kb13 kb14 kb15 kb16 kb17 i cl sl 615 := by
  intro ed cE n cap aa ad d ce mo gr gs bg re sp gp fx mm rg rn ro sq gq fq g0 g1 g2 g3 gn v0 v1 v2 v3 v4 v5 H locs ls hI hcp ha hl hP hD hK hS
  have hl : lv_has ls 4 [(3, .int (nI i)), (2, .ref h1), (1, .ref h0), (0, .ref b)] := hl
  refine lv_iinc (k := 0) (v := nI (i + 6)) hx hb dLW_law_615 hl rfl (by rw [show Int32.ofInt 6 = nI 6 from by decide]; exact nI_add _ _) (Nat.le_of_ble_eq_true rfl) rfl (fun ls hl => ?_)
  have hl : lv_has ls 4 [(3, .int (nI (i + 6))), (2, .ref h1), (1, .ref h0), (0, .ref b)] := hl
  refine lv_goto (tgt := 18) hx hb dLW_law_618 rfl ?_
  exact nx ed cE n cap aa ad d ce mo gr gs bg re sp gp fx mm rg rn ro sq gq fq g0 g1 g2 g3 gn v0 v1 v2 v3 v4 v5 H locs ls hI hcp ha (lv_sub hl [0, 1, 2, 3] rfl) hP hD hK hS

set_option maxHeartbeats 8000000 in
set_option maxRecDepth 100000 in
theorem lawS_N {p : Program} (l : Launch) {e : Env} {s : State} {m : MethodId} {below : List Frame} {meth : Method} {c : Code} {Q : State → Prop} {A : Nat → Prop} {dC : Nat → ClassId} {dI : Nat → Nat → Nat} {b L t mi : Nat} {ty : FieldType} {xs : Nat → Int32} {h0 g al wd hh l0 l1 l2 l3 p0 p1 p2 p3 ln pn h1 b0 b1 b2 b3 b4 b5 b6 b7 b8 b9 b10 b11 b12 b13 b14 b15 b16 b17 : Nat} {kp0 kp1 kp2 kp3 kn kb0 kb1 kb2 kb3 kb4 kb5 kb6 kb7 kb8 kb9 kb10 kb11 kb12 kb13 kb14 kb15 kb16 kb17 : ClassId} (hx : p.tables.exec = Jvm.exec) (hb : c.code = code) (hml : c.maxLocals = 4) (hown : s.vm.findClass "SpannedCellsLaw" = some m.cls) (hz : ∀ w9 ∈ zT, w9.before #[Value.ref b] s = true) (hXs : va_X b L xs s s.heap) (hbl : b < s.heap.size) (hAb : ¬ A b) (hA : ∀ q : Nat, s.heap.size ≤ q → A q) (hN : zN s) (hX : zY t ty mi A s) {i cl sl : Nat} (hL : L ≤ 3072) (hi6 : i + 6 ≤ L) (hc9 : cl + 2 ≤ 600000) (hs9 : sl + 68 ≤ 7302250) (backN : zAtN p l e s m below meth c Q A dC dI b h0 g al wd hh l0 l1 l2 l3 p0 p1 p2 p3 ln pn h1 b0 b1 b2 b3 b4 b5 b6 b7 b8 b9 b10 b11 b12 b13 b14 b15 b16 b17 kp0 kp1 kp2 kp3 kn kb0 kb1 kb2 kb3 kb4 kb5 kb6 kb7 kb8 kb9 kb10 kb11 kb12 kb13 kb14 kb15 kb16 kb17 i (cl + 2) (sl + 68) 615) : zAtN p l e s m below meth c Q A dC dI b h0 g al wd hh l0 l1 l2 l3 p0 p1 p2 p3 ln pn h1 b0 b1 b2 b3 b4 b5 b6 b7 b8 b9 b10 b11 b12 b13 b14 b15 b16 b17 kp0 kp1 kp2 kp3 kn kb0 kb1 kb2 kb3 kb4 kb5 kb6 kb7 kb8 kb9 kb10 kb11 kb12 kb13 kb14 kb15 kb16 kb17 i cl sl 27 := by
  intro ed cE n cap aa ad d ce mo gr gs bg re sp gp fx mm rg rn ro sq gq fq g0 g1 g2 g3 gn v0 v1 v2 v3 v4 v5 H locs ls hI hcp ha hl hP hD hK hS
  have hl : lv_has ls 4 [(3, .int (nI i)), (2, .ref h1), (1, .ref h0), (0, .ref b)] := hl
  refine lv_aload_n hx hb dLW_law_27 rfl (lv_at hl 3 rfl) ?_
  refine lv_iload_n hx hb dLW_law_28 rfl (lv_at hl 0 rfl) ?_
  refine va_sld hx hb hXs hbl hAb hS (vp_in_nI (by omega) (by omega)) dLW_law_29 ?_
  refine lv_topi (fun x1 e2 => ?_)
  have e2 : x1 = xs i := e2.trans (by rw [nI_clamp (by omega)])
  subst e2
  refine lv_bipush (v := nI 31) hx hb dLW_law_30 (by decide) ?_
  refine lv_iand hx hb dLW_law_32 ?_
  obtain ⟨j, hj, ej⟩ := pk_andE (xs i) 5 (m := nI 31) (by decide)
  rw [ej]
  rcases (show j = 0 ∨ j = 1 ∨ j = 2 ∨ j = 3 ∨ j = 4 ∨ j = 5 ∨ j = 6 ∨ j = 7 ∨ j = 8 ∨ j = 9 ∨ j = 10 ∨ j = 11 ∨ j = 12 ∨ j = 13 ∨ j = 14 ∨ j = 15 ∨ j = 16 ∨ 17 ≤ j by omega) with rfl | rfl | rfl | rfl | rfl | rfl | rfl | rfl | rfl | rfl | rfl | rfl | rfl | rfl | rfl | rfl | rfl | hj17
  · refine lv_tableIn (off := 83) (tgt := 116) hx hb dLW_law_33 (by decide) (by decide) (by decide) rfl ?_
    exact lawN_0 l hx hb hml hown hz hXs hbl hAb hA hN hX hL hi6 hc9 hs9 backN ed cE n cap aa ad d ce mo gr gs bg re sp gp fx mm rg rn ro sq gq fq g0 g1 g2 g3 gn v0 v1 v2 v3 v4 v5 H locs ls hI hcp ha hl hP hD hK hS
  · refine lv_tableIn (off := 96) (tgt := 129) hx hb dLW_law_33 (by decide) (by decide) (by decide) rfl ?_
    exact lawN_1 l hx hb hml hown hz hXs hbl hAb hA hN hX hL hi6 hc9 hs9 backN ed cE n cap aa ad d ce mo gr gs bg re sp gp fx mm rg rn ro sq gq fq g0 g1 g2 g3 gn v0 v1 v2 v3 v4 v5 H locs ls hI hcp ha hl hP hD hK hS
  · refine lv_tableIn (off := 109) (tgt := 142) hx hb dLW_law_33 (by decide) (by decide) (by decide) rfl ?_
    exact lawN_2 l hx hb hml hown hz hXs hbl hAb hA hN hX hL hi6 hc9 hs9 backN ed cE n cap aa ad d ce mo gr gs bg re sp gp fx mm rg rn ro sq gq fq g0 g1 g2 g3 gn v0 v1 v2 v3 v4 v5 H locs ls hI hcp ha hl hP hD hK hS
  · refine lv_tableIn (off := 172) (tgt := 205) hx hb dLW_law_33 (by decide) (by decide) (by decide) rfl ?_
    exact lawN_3 l hx hb hml hown hz hXs hbl hAb hA hN hX hL hi6 hc9 hs9 backN ed cE n cap aa ad d ce mo gr gs bg re sp gp fx mm rg rn ro sq gq fq g0 g1 g2 g3 gn v0 v1 v2 v3 v4 v5 H locs ls hI hcp ha hl hP hD hK hS
  · refine lv_tableIn (off := 215) (tgt := 248) hx hb dLW_law_33 (by decide) (by decide) (by decide) rfl ?_
    exact lawN_4 l hx hb hml hown hz hXs hbl hAb hA hN hX hL hi6 hc9 hs9 backN ed cE n cap aa ad d ce mo gr gs bg re sp gp fx mm rg rn ro sq gq fq g0 g1 g2 g3 gn v0 v1 v2 v3 v4 v5 H locs ls hI hcp ha hl hP hD hK hS
  · refine lv_tableIn (off := 274) (tgt := 307) hx hb dLW_law_33 (by decide) (by decide) (by decide) rfl ?_
    exact lawN_5 l hx hb hml hown hz hXs hbl hAb hA hN hX hL hi6 hc9 hs9 backN ed cE n cap aa ad d ce mo gr gs bg re sp gp fx mm rg rn ro sq gq fq g0 g1 g2 g3 gn v0 v1 v2 v3 v4 v5 H locs ls hI hcp ha hl hP hD hK hS
  · refine lv_tableIn (off := 287) (tgt := 320) hx hb dLW_law_33 (by decide) (by decide) (by decide) rfl ?_
    exact lawN_6 l hx hb hml hown hz hXs hbl hAb hA hN hX hL hi6 hc9 hs9 backN ed cE n cap aa ad d ce mo gr gs bg re sp gp fx mm rg rn ro sq gq fq g0 g1 g2 g3 gn v0 v1 v2 v3 v4 v5 H locs ls hI hcp ha hl hP hD hK hS
  · refine lv_tableIn (off := 300) (tgt := 333) hx hb dLW_law_33 (by decide) (by decide) (by decide) rfl ?_
    exact lawN_7 l hx hb hml hown hz hXs hbl hAb hA hN hX hL hi6 hc9 hs9 backN ed cE n cap aa ad d ce mo gr gs bg re sp gp fx mm rg rn ro sq gq fq g0 g1 g2 g3 gn v0 v1 v2 v3 v4 v5 H locs ls hI hcp ha hl hP hD hK hS
  · refine lv_tableIn (off := 313) (tgt := 346) hx hb dLW_law_33 (by decide) (by decide) (by decide) rfl ?_
    exact lawN_8 l hx hb hml hown hz hXs hbl hAb hA hN hX hL hi6 hc9 hs9 backN ed cE n cap aa ad d ce mo gr gs bg re sp gp fx mm rg rn ro sq gq fq g0 g1 g2 g3 gn v0 v1 v2 v3 v4 v5 H locs ls hI hcp ha hl hP hD hK hS
  · refine lv_tableIn (off := 346) (tgt := 379) hx hb dLW_law_33 (by decide) (by decide) (by decide) rfl ?_
    exact lawN_9 l hx hb hml hown hz hXs hbl hAb hA hN hX hL hi6 hc9 hs9 backN ed cE n cap aa ad d ce mo gr gs bg re sp gp fx mm rg rn ro sq gq fq g0 g1 g2 g3 gn v0 v1 v2 v3 v4 v5 H locs ls hI hcp ha hl hP hD hK hS
  · refine lv_tableIn (off := 359) (tgt := 392) hx hb dLW_law_33 (by decide) (by decide) (by decide) rfl ?_
    exact lawN_10 l hx hb hml hown hz hXs hbl hAb hA hN hX hL hi6 hc9 hs9 backN ed cE n cap aa ad d ce mo gr gs bg re sp gp fx mm rg rn ro sq gq fq g0 g1 g2 g3 gn v0 v1 v2 v3 v4 v5 H locs ls hI hcp ha hl hP hD hK hS
  · refine lv_tableIn (off := 372) (tgt := 405) hx hb dLW_law_33 (by decide) (by decide) (by decide) rfl ?_
    exact lawN_11 l hx hb hml hown hz hXs hbl hAb hA hN hX hL hi6 hc9 hs9 backN ed cE n cap aa ad d ce mo gr gs bg re sp gp fx mm rg rn ro sq gq fq g0 g1 g2 g3 gn v0 v1 v2 v3 v4 v5 H locs ls hI hcp ha hl hP hD hK hS
  · refine lv_tableIn (off := 395) (tgt := 428) hx hb dLW_law_33 (by decide) (by decide) (by decide) rfl ?_
    exact lawN_12 l hx hb hml hown hz hXs hbl hAb hA hN hX hL hi6 hc9 hs9 backN ed cE n cap aa ad d ce mo gr gs bg re sp gp fx mm rg rn ro sq gq fq g0 g1 g2 g3 gn v0 v1 v2 v3 v4 v5 H locs ls hI hcp ha hl hP hD hK hS
  · refine lv_tableIn (off := 428) (tgt := 461) hx hb dLW_law_33 (by decide) (by decide) (by decide) rfl ?_
    exact lawN_13 l hx hb hml hown hz hXs hbl hAb hA hN hX hL hi6 hc9 hs9 backN ed cE n cap aa ad d ce mo gr gs bg re sp gp fx mm rg rn ro sq gq fq g0 g1 g2 g3 gn v0 v1 v2 v3 v4 v5 H locs ls hI hcp ha hl hP hD hK hS
  · refine lv_tableIn (off := 451) (tgt := 484) hx hb dLW_law_33 (by decide) (by decide) (by decide) rfl ?_
    exact lawN_14 l hx hb hml hown hz hXs hbl hAb hA hN hX hL hi6 hc9 hs9 backN ed cE n cap aa ad d ce mo gr gs bg re sp gp fx mm rg rn ro sq gq fq g0 g1 g2 g3 gn v0 v1 v2 v3 v4 v5 H locs ls hI hcp ha hl hP hD hK hS
  · refine lv_tableIn (off := 484) (tgt := 517) hx hb dLW_law_33 (by decide) (by decide) (by decide) rfl ?_
    exact lawN_15 l hx hb hml hown hz hXs hbl hAb hA hN hX hL hi6 hc9 hs9 backN ed cE n cap aa ad d ce mo gr gs bg re sp gp fx mm rg rn ro sq gq fq g0 g1 g2 g3 gn v0 v1 v2 v3 v4 v5 H locs ls hI hcp ha hl hP hD hK hS
  · refine lv_tableIn (off := 523) (tgt := 556) hx hb dLW_law_33 (by decide) (by decide) (by decide) rfl ?_
    exact lawN_16 l hx hb hml hown hz hXs hbl hAb hA hN hX hL hi6 hc9 hs9 backN ed cE n cap aa ad d ce mo gr gs bg re sp gp fx mm rg rn ro sq gq fq g0 g1 g2 g3 gn v0 v1 v2 v3 v4 v5 H locs ls hI hcp ha hl hP hD hK hS
  · refine lv_tableOut (tgt := 615) hx hb dLW_law_33 (Or.inr (by rw [nI_toInt (by omega)]; omega)) rfl ?_
    refine W.widen (k := cl + 2) (n := sl + 68) (by omega) (by omega) ?_
    exact backN ed cE n cap aa ad d ce mo gr gs bg re sp gp fx mm rg rn ro sq gq fq g0 g1 g2 g3 gn v0 v1 v2 v3 v4 v5 H locs ls hI hcp ha hl hP hD hK hS

set_option maxHeartbeats 8000000 in
set_option maxRecDepth 100000 in
theorem lawH_E {p : Program} (l : Launch) {e : Env} {s : State} {m : MethodId} {below : List Frame} {meth : Method} {c : Code} {Q : State → Prop} {A : Nat → Prop} {dC : Nat → ClassId} {dI : Nat → Nat → Nat} {b L t mi : Nat} {ty : FieldType} {xs : Nat → Int32} {h0 g al wd hh l0 l1 l2 l3 p0 p1 p2 p3 ln pn h1 b0 b1 b2 b3 b4 b5 b6 b7 b8 b9 b10 b11 b12 b13 b14 b15 b16 b17 : Nat} {kp0 kp1 kp2 kp3 kn kb0 kb1 kb2 kb3 kb4 kb5 kb6 kb7 kb8 kb9 kb10 kb11 kb12 kb13 kb14 kb15 kb16 kb17 : ClassId} (hx : p.tables.exec = Jvm.exec) (hb : c.code = code) (hml : c.maxLocals = 4) (hown : s.vm.findClass "SpannedCellsLaw" = some m.cls) (hz : ∀ w9 ∈ zT, w9.before #[Value.ref b] s = true) (hXs : va_X b L xs s s.heap) (hbl : b < s.heap.size) (hAb : ¬ A b) (hA : ∀ q : Nat, s.heap.size ≤ q → A q) (hN : zN s) (hX : zY t ty mi A s) {i cl sl : Nat} (hL : L ≤ 3072) (hi : i ≤ 3072) (fin : ∀ (H : Heap) (locs : List Loc) (ls : Array Slot), va_S A s.heap H locs → W p l e room_1 s m #[Value.ref b] below meth c H locs cl sl Q (F0 m 621 ls [])) (next : i + 6 ≤ L → zAtE p l e s m below meth c Q A dC dI b h0 g al wd hh l0 l1 l2 l3 p0 p1 p2 p3 ln pn h1 b0 b1 b2 b3 b4 b5 b6 b7 b8 b9 b10 b11 b12 b13 b14 b15 b16 b17 kp0 kp1 kp2 kp3 kn kb0 kb1 kb2 kb3 kb4 kb5 kb6 kb7 kb8 kb9 kb10 kb11 kb12 kb13 kb14 kb15 kb16 kb17 t i cl sl 27) : zAtE p l e s m below meth c Q A dC dI b h0 g al wd hh l0 l1 l2 l3 p0 p1 p2 p3 ln pn h1 b0 b1 b2 b3 b4 b5 b6 b7 b8 b9 b10 b11 b12 b13 b14 b15 b16 b17 kp0 kp1 kp2 kp3 kn kb0 kb1 kb2 kb3 kb4 kb5 kb6 kb7 kb8 kb9 kb10 kb11 kb12 kb13 kb14 kb15 kb16 kb17 t i cl sl 18 := by
  intro mo gr gs bg re sp gp fx mm rg rn ro sq gq fq g0 g1 g2 g3 gn v0 v1 v2 v3 v4 v5 H locs ls hI hcp hl hP hD hK hS
  have hl : lv_has ls 4 [(3, .int (nI i)), (2, .ref h1), (1, .ref h0), (0, .ref b)] := hl
  refine lv_iload_n hx hb dLW_law_18 rfl (lv_at hl 0 rfl) ?_
  refine lv_aload_n hx hb dLW_law_19 rfl (lv_at hl 3 rfl) ?_
  refine va_slen hx hb hXs hbl hAb hS dLW_law_20 ?_
  refine W.eq (g2 := F0 m 21 ls [.int (nI L), .int (nI i)]) rfl ?_
  refine lv_bipush (v := nI 6) hx hb dLW_law_21 (by decide) ?_
  refine lv_isub hx hb dLW_law_23 ?_
  have t1 := nI_toInt (n := i) (by omega)
  have t2 := pk_sub_toInt (a := L) (b := 6) (by omega) (by omega)
  refine lv_icmp_gt (tgt := 621) hx hb dLW_law_24 rfl (fun h1 => ?_) (fun h1 => ?_)
  · exact fin H locs ls hS
  · have h1 := z_nlt h1
    exact next (by omega) mo gr gs bg re sp gp fx mm rg rn ro sq gq fq g0 g1 g2 g3 gn v0 v1 v2 v3 v4 v5 H locs ls hI hcp hl hP hD hK hS

set_option maxHeartbeats 8000000 in
set_option maxRecDepth 100000 in
theorem lawB_E {p : Program} (l : Launch) {e : Env} {s : State} {m : MethodId} {below : List Frame} {meth : Method} {c : Code} {Q : State → Prop} {A : Nat → Prop} {dC : Nat → ClassId} {dI : Nat → Nat → Nat} {b L t mi : Nat} {ty : FieldType} {xs : Nat → Int32} {h0 g al wd hh l0 l1 l2 l3 p0 p1 p2 p3 ln pn h1 b0 b1 b2 b3 b4 b5 b6 b7 b8 b9 b10 b11 b12 b13 b14 b15 b16 b17 : Nat} {kp0 kp1 kp2 kp3 kn kb0 kb1 kb2 kb3 kb4 kb5 kb6 kb7 kb8 kb9 kb10 kb11 kb12 kb13 kb14 kb15 kb16 kb17 : ClassId} (hx : p.tables.exec = Jvm.exec) (hb : c.code = code) (hml : c.maxLocals = 4) (hown : s.vm.findClass "SpannedCellsLaw" = some m.cls) (hz : ∀ w9 ∈ zT, w9.before #[Value.ref b] s = true) (hXs : va_X b L xs s s.heap) (hbl : b < s.heap.size) (hAb : ¬ A b) (hA : ∀ q : Nat, s.heap.size ≤ q → A q) (hN : zN s) (hX : zY t ty mi A s) {i cl sl : Nat} (nx : zAtE p l e s m below meth c Q A dC dI b h0 g al wd hh l0 l1 l2 l3 p0 p1 p2 p3 ln pn h1 b0 b1 b2 b3 b4 b5 b6 b7 b8 b9 b10 b11 b12 b13 b14 b15 b16 b17 kp0 kp1 kp2 kp3 kn kb0 kb1 kb2 kb3 kb4 kb5 kb6 kb7 kb8 kb9 kb10 kb11 kb12 kb13 kb14 kb15 kb16 kb17 t (i + 6) cl sl 18) : zAtE p l e s m below meth c Q A dC dI b h0 g al wd hh l0 l1 l2 l3 p0 p1 p2 p3 ln pn h1 b0 b1 b2 b3 b4 b5 b6 b7 b8 b9 b10 b11 b12 b13 b14 b15 b16 b17 kp0 kp1 kp2 kp3 kn kb0 kb1 kb2 kb3 kb4 kb5 kb6 kb7 kb8 kb9 kb10 kb11 kb12 kb13 kb14 kb15 kb16 kb17 t i cl sl 615 := by
  intro mo gr gs bg re sp gp fx mm rg rn ro sq gq fq g0 g1 g2 g3 gn v0 v1 v2 v3 v4 v5 H locs ls hI hcp hl hP hD hK hS
  have hl : lv_has ls 4 [(3, .int (nI i)), (2, .ref h1), (1, .ref h0), (0, .ref b)] := hl
  refine lv_iinc (k := 0) (v := nI (i + 6)) hx hb dLW_law_615 hl rfl (by rw [show Int32.ofInt 6 = nI 6 from by decide]; exact nI_add _ _) (Nat.le_of_ble_eq_true rfl) rfl (fun ls hl => ?_)
  have hl : lv_has ls 4 [(3, .int (nI (i + 6))), (2, .ref h1), (1, .ref h0), (0, .ref b)] := hl
  refine lv_goto (tgt := 18) hx hb dLW_law_618 rfl ?_
  exact nx mo gr gs bg re sp gp fx mm rg rn ro sq gq fq g0 g1 g2 g3 gn v0 v1 v2 v3 v4 v5 H locs ls hI hcp (lv_sub hl [0, 1, 2, 3] rfl) hP hD hK hS

set_option maxHeartbeats 8000000 in
set_option maxRecDepth 100000 in
theorem lawS_E {p : Program} (l : Launch) {e : Env} {s : State} {m : MethodId} {below : List Frame} {meth : Method} {c : Code} {Q : State → Prop} {A : Nat → Prop} {dC : Nat → ClassId} {dI : Nat → Nat → Nat} {b L t mi : Nat} {ty : FieldType} {xs : Nat → Int32} {h0 g al wd hh l0 l1 l2 l3 p0 p1 p2 p3 ln pn h1 b0 b1 b2 b3 b4 b5 b6 b7 b8 b9 b10 b11 b12 b13 b14 b15 b16 b17 : Nat} {kp0 kp1 kp2 kp3 kn kb0 kb1 kb2 kb3 kb4 kb5 kb6 kb7 kb8 kb9 kb10 kb11 kb12 kb13 kb14 kb15 kb16 kb17 : ClassId} (hx : p.tables.exec = Jvm.exec) (hb : c.code = code) (hml : c.maxLocals = 4) (hown : s.vm.findClass "SpannedCellsLaw" = some m.cls) (hz : ∀ w9 ∈ zT, w9.before #[Value.ref b] s = true) (hXs : va_X b L xs s s.heap) (hbl : b < s.heap.size) (hAb : ¬ A b) (hA : ∀ q : Nat, s.heap.size ≤ q → A q) (hN : zN s) (hX : zY t ty mi A s) {i cl sl : Nat} (hL : L ≤ 3072) (hi6 : i + 6 ≤ L) (hc9 : cl + 2 ≤ 600000) (hs9 : sl + 68 ≤ 7302250) (backE : zAtE p l e s m below meth c Q A dC dI b h0 g al wd hh l0 l1 l2 l3 p0 p1 p2 p3 ln pn h1 b0 b1 b2 b3 b4 b5 b6 b7 b8 b9 b10 b11 b12 b13 b14 b15 b16 b17 kp0 kp1 kp2 kp3 kn kb0 kb1 kb2 kb3 kb4 kb5 kb6 kb7 kb8 kb9 kb10 kb11 kb12 kb13 kb14 kb15 kb16 kb17 t i (cl + 2) (sl + 68) 615) (backN : zAtN p l e s m below meth c Q A dC dI b h0 g al wd hh l0 l1 l2 l3 p0 p1 p2 p3 ln pn h1 b0 b1 b2 b3 b4 b5 b6 b7 b8 b9 b10 b11 b12 b13 b14 b15 b16 b17 kp0 kp1 kp2 kp3 kn kb0 kb1 kb2 kb3 kb4 kb5 kb6 kb7 kb8 kb9 kb10 kb11 kb12 kb13 kb14 kb15 kb16 kb17 i (cl + 2) (sl + 68) 615) : zAtE p l e s m below meth c Q A dC dI b h0 g al wd hh l0 l1 l2 l3 p0 p1 p2 p3 ln pn h1 b0 b1 b2 b3 b4 b5 b6 b7 b8 b9 b10 b11 b12 b13 b14 b15 b16 b17 kp0 kp1 kp2 kp3 kn kb0 kb1 kb2 kb3 kb4 kb5 kb6 kb7 kb8 kb9 kb10 kb11 kb12 kb13 kb14 kb15 kb16 kb17 t i cl sl 27 := by
  intro mo gr gs bg re sp gp fx mm rg rn ro sq gq fq g0 g1 g2 g3 gn v0 v1 v2 v3 v4 v5 H locs ls hI hcp hl hP hD hK hS
  have hl : lv_has ls 4 [(3, .int (nI i)), (2, .ref h1), (1, .ref h0), (0, .ref b)] := hl
  refine lv_aload_n hx hb dLW_law_27 rfl (lv_at hl 3 rfl) ?_
  refine lv_iload_n hx hb dLW_law_28 rfl (lv_at hl 0 rfl) ?_
  refine va_sld hx hb hXs hbl hAb hS (vp_in_nI (by omega) (by omega)) dLW_law_29 ?_
  refine lv_topi (fun x1 e2 => ?_)
  have e2 : x1 = xs i := e2.trans (by rw [nI_clamp (by omega)])
  subst e2
  refine lv_bipush (v := nI 31) hx hb dLW_law_30 (by decide) ?_
  refine lv_iand hx hb dLW_law_32 ?_
  obtain ⟨j, hj, ej⟩ := pk_andE (xs i) 5 (m := nI 31) (by decide)
  rw [ej]
  rcases (show j = 0 ∨ j = 1 ∨ j = 2 ∨ j = 3 ∨ j = 4 ∨ j = 5 ∨ j = 6 ∨ j = 7 ∨ j = 8 ∨ j = 9 ∨ j = 10 ∨ j = 11 ∨ j = 12 ∨ j = 13 ∨ j = 14 ∨ j = 15 ∨ j = 16 ∨ 17 ≤ j by omega) with rfl | rfl | rfl | rfl | rfl | rfl | rfl | rfl | rfl | rfl | rfl | rfl | rfl | rfl | rfl | rfl | rfl | hj17
  · refine lv_tableIn (off := 83) (tgt := 116) hx hb dLW_law_33 (by decide) (by decide) (by decide) rfl ?_
    exact lawE_0 l hx hb hml hown hz hXs hbl hAb hA hN hX hL hi6 hc9 hs9 backE mo gr gs bg re sp gp fx mm rg rn ro sq gq fq g0 g1 g2 g3 gn v0 v1 v2 v3 v4 v5 H locs ls hI hcp hl hP hD hK hS
  · refine lv_tableIn (off := 96) (tgt := 129) hx hb dLW_law_33 (by decide) (by decide) (by decide) rfl ?_
    exact lawE_1 l hx hb hml hown hz hXs hbl hAb hA hN hX hL hi6 hc9 hs9 backE mo gr gs bg re sp gp fx mm rg rn ro sq gq fq g0 g1 g2 g3 gn v0 v1 v2 v3 v4 v5 H locs ls hI hcp hl hP hD hK hS
  · refine lv_tableIn (off := 109) (tgt := 142) hx hb dLW_law_33 (by decide) (by decide) (by decide) rfl ?_
    exact lawE_2 l hx hb hml hown hz hXs hbl hAb hA hN hX hL hi6 hc9 hs9 backE backN mo gr gs bg re sp gp fx mm rg rn ro sq gq fq g0 g1 g2 g3 gn v0 v1 v2 v3 v4 v5 H locs ls hI hcp hl hP hD hK hS
  · refine lv_tableIn (off := 172) (tgt := 205) hx hb dLW_law_33 (by decide) (by decide) (by decide) rfl ?_
    exact lawE_3 l hx hb hml hown hz hXs hbl hAb hA hN hX hL hi6 hc9 hs9 backE mo gr gs bg re sp gp fx mm rg rn ro sq gq fq g0 g1 g2 g3 gn v0 v1 v2 v3 v4 v5 H locs ls hI hcp hl hP hD hK hS
  · refine lv_tableIn (off := 215) (tgt := 248) hx hb dLW_law_33 (by decide) (by decide) (by decide) rfl ?_
    exact lawE_4 l hx hb hml hown hz hXs hbl hAb hA hN hX hL hi6 hc9 hs9 backE mo gr gs bg re sp gp fx mm rg rn ro sq gq fq g0 g1 g2 g3 gn v0 v1 v2 v3 v4 v5 H locs ls hI hcp hl hP hD hK hS
  · refine lv_tableIn (off := 274) (tgt := 307) hx hb dLW_law_33 (by decide) (by decide) (by decide) rfl ?_
    exact lawE_5 l hx hb hml hown hz hXs hbl hAb hA hN hX hL hi6 hc9 hs9 backE mo gr gs bg re sp gp fx mm rg rn ro sq gq fq g0 g1 g2 g3 gn v0 v1 v2 v3 v4 v5 H locs ls hI hcp hl hP hD hK hS
  · refine lv_tableIn (off := 287) (tgt := 320) hx hb dLW_law_33 (by decide) (by decide) (by decide) rfl ?_
    exact lawE_6 l hx hb hml hown hz hXs hbl hAb hA hN hX hL hi6 hc9 hs9 backE mo gr gs bg re sp gp fx mm rg rn ro sq gq fq g0 g1 g2 g3 gn v0 v1 v2 v3 v4 v5 H locs ls hI hcp hl hP hD hK hS
  · refine lv_tableIn (off := 300) (tgt := 333) hx hb dLW_law_33 (by decide) (by decide) (by decide) rfl ?_
    exact lawE_7 l hx hb hml hown hz hXs hbl hAb hA hN hX hL hi6 hc9 hs9 backE mo gr gs bg re sp gp fx mm rg rn ro sq gq fq g0 g1 g2 g3 gn v0 v1 v2 v3 v4 v5 H locs ls hI hcp hl hP hD hK hS
  · refine lv_tableIn (off := 313) (tgt := 346) hx hb dLW_law_33 (by decide) (by decide) (by decide) rfl ?_
    exact lawE_8 l hx hb hml hown hz hXs hbl hAb hA hN hX hL hi6 hc9 hs9 backE mo gr gs bg re sp gp fx mm rg rn ro sq gq fq g0 g1 g2 g3 gn v0 v1 v2 v3 v4 v5 H locs ls hI hcp hl hP hD hK hS
  · refine lv_tableIn (off := 346) (tgt := 379) hx hb dLW_law_33 (by decide) (by decide) (by decide) rfl ?_
    exact lawE_9 l hx hb hml hown hz hXs hbl hAb hA hN hX hL hi6 hc9 hs9 backE mo gr gs bg re sp gp fx mm rg rn ro sq gq fq g0 g1 g2 g3 gn v0 v1 v2 v3 v4 v5 H locs ls hI hcp hl hP hD hK hS
  · refine lv_tableIn (off := 359) (tgt := 392) hx hb dLW_law_33 (by decide) (by decide) (by decide) rfl ?_
    exact lawE_10 l hx hb hml hown hz hXs hbl hAb hA hN hX hL hi6 hc9 hs9 backE mo gr gs bg re sp gp fx mm rg rn ro sq gq fq g0 g1 g2 g3 gn v0 v1 v2 v3 v4 v5 H locs ls hI hcp hl hP hD hK hS
  · refine lv_tableIn (off := 372) (tgt := 405) hx hb dLW_law_33 (by decide) (by decide) (by decide) rfl ?_
    exact lawE_11 l hx hb hml hown hz hXs hbl hAb hA hN hX hL hi6 hc9 hs9 backE mo gr gs bg re sp gp fx mm rg rn ro sq gq fq g0 g1 g2 g3 gn v0 v1 v2 v3 v4 v5 H locs ls hI hcp hl hP hD hK hS
  · refine lv_tableIn (off := 395) (tgt := 428) hx hb dLW_law_33 (by decide) (by decide) (by decide) rfl ?_
    exact lawE_12 l hx hb hml hown hz hXs hbl hAb hA hN hX hL hi6 hc9 hs9 backE mo gr gs bg re sp gp fx mm rg rn ro sq gq fq g0 g1 g2 g3 gn v0 v1 v2 v3 v4 v5 H locs ls hI hcp hl hP hD hK hS
  · refine lv_tableIn (off := 428) (tgt := 461) hx hb dLW_law_33 (by decide) (by decide) (by decide) rfl ?_
    exact lawE_13 l hx hb hml hown hz hXs hbl hAb hA hN hX hL hi6 hc9 hs9 backE mo gr gs bg re sp gp fx mm rg rn ro sq gq fq g0 g1 g2 g3 gn v0 v1 v2 v3 v4 v5 H locs ls hI hcp hl hP hD hK hS
  · refine lv_tableIn (off := 451) (tgt := 484) hx hb dLW_law_33 (by decide) (by decide) (by decide) rfl ?_
    exact lawE_14 l hx hb hml hown hz hXs hbl hAb hA hN hX hL hi6 hc9 hs9 backE mo gr gs bg re sp gp fx mm rg rn ro sq gq fq g0 g1 g2 g3 gn v0 v1 v2 v3 v4 v5 H locs ls hI hcp hl hP hD hK hS
  · refine lv_tableIn (off := 484) (tgt := 517) hx hb dLW_law_33 (by decide) (by decide) (by decide) rfl ?_
    exact lawE_15 l hx hb hml hown hz hXs hbl hAb hA hN hX hL hi6 hc9 hs9 backE mo gr gs bg re sp gp fx mm rg rn ro sq gq fq g0 g1 g2 g3 gn v0 v1 v2 v3 v4 v5 H locs ls hI hcp hl hP hD hK hS
  · refine lv_tableIn (off := 523) (tgt := 556) hx hb dLW_law_33 (by decide) (by decide) (by decide) rfl ?_
    exact lawE_16 l hx hb hml hown hz hXs hbl hAb hA hN hX hL hi6 hc9 hs9 backE mo gr gs bg re sp gp fx mm rg rn ro sq gq fq g0 g1 g2 g3 gn v0 v1 v2 v3 v4 v5 H locs ls hI hcp hl hP hD hK hS
  · refine lv_tableOut (tgt := 615) hx hb dLW_law_33 (Or.inr (by rw [nI_toInt (by omega)]; omega)) rfl ?_
    refine W.widen (k := cl + 2) (n := sl + 68) (by omega) (by omega) ?_
    exact backE mo gr gs bg re sp gp fx mm rg rn ro sq gq fq g0 g1 g2 g3 gn v0 v1 v2 v3 v4 v5 H locs ls hI hcp hl hP hD hK hS

set_option maxHeartbeats 8000000 in
set_option maxRecDepth 100000 in
theorem lawL_N {p : Program} (l : Launch) {e : Env} {s : State} {m : MethodId} {below : List Frame} {meth : Method} {c : Code} {Q : State → Prop} {A : Nat → Prop} {dC : Nat → ClassId} {dI : Nat → Nat → Nat} {b L t mi : Nat} {ty : FieldType} {xs : Nat → Int32} {h0 g al wd hh l0 l1 l2 l3 p0 p1 p2 p3 ln pn h1 b0 b1 b2 b3 b4 b5 b6 b7 b8 b9 b10 b11 b12 b13 b14 b15 b16 b17 : Nat} {kp0 kp1 kp2 kp3 kn kb0 kb1 kb2 kb3 kb4 kb5 kb6 kb7 kb8 kb9 kb10 kb11 kb12 kb13 kb14 kb15 kb16 kb17 : ClassId} (hx : p.tables.exec = Jvm.exec) (hb : c.code = code) (hml : c.maxLocals = 4) (hown : s.vm.findClass "SpannedCellsLaw" = some m.cls) (hz : ∀ w9 ∈ zT, w9.before #[Value.ref b] s = true) (hXs : va_X b L xs s s.heap) (hbl : b < s.heap.size) (hAb : ¬ A b) (hA : ∀ q : Nat, s.heap.size ≤ q → A q) (hN : zN s) (hX : zY t ty mi A s) (hL : L ≤ 3072) (fin : ∀ cl sl : Nat, cl ≤ 600000 → sl ≤ 7302250 → ∀ (H : Heap) (locs : List Loc) (ls : Array Slot), va_S A s.heap H locs → W p l e room_1 s m #[Value.ref b] below meth c H locs cl sl Q (F0 m 621 ls [])) : ∀ f i cl sl : Nat, L < i + 6 * f + 6 → i ≤ 3072 → cl + 2 * f ≤ 600000 → sl + 68 * f ≤ 7302250 → zAtN p l e s m below meth c Q A dC dI b h0 g al wd hh l0 l1 l2 l3 p0 p1 p2 p3 ln pn h1 b0 b1 b2 b3 b4 b5 b6 b7 b8 b9 b10 b11 b12 b13 b14 b15 b16 b17 kp0 kp1 kp2 kp3 kn kb0 kb1 kb2 kb3 kb4 kb5 kb6 kb7 kb8 kb9 kb10 kb11 kb12 kb13 kb14 kb15 kb16 kb17 i cl sl 18 := by
  intro f
  induction f with
  | zero =>
    intro i cl sl h1 h2 h3 h4
    exact lawH_N l hx hb hml hown hz hXs hbl hAb hA hN hX hL h2 (fin cl sl (by omega) (by omega)) (fun h6 => absurd h6 (by omega))
  | succ f ih =>
    intro i cl sl h1 h2 h3 h4
    refine lawH_N l hx hb hml hown hz hXs hbl hAb hA hN hX hL h2 (fin cl sl (by omega) (by omega)) (fun h6 => ?_)
    exact lawS_N l hx hb hml hown hz hXs hbl hAb hA hN hX hL h6 (by omega) (by omega) (lawB_N l hx hb hml hown hz hXs hbl hAb hA hN hX (ih (i + 6) (cl + 2) (sl + 68) (by omega) (by omega) (by omega) (by omega)))

set_option maxHeartbeats 8000000 in
set_option maxRecDepth 100000 in
theorem lawL_E {p : Program} (l : Launch) {e : Env} {s : State} {m : MethodId} {below : List Frame} {meth : Method} {c : Code} {Q : State → Prop} {A : Nat → Prop} {dC : Nat → ClassId} {dI : Nat → Nat → Nat} {b L t mi : Nat} {ty : FieldType} {xs : Nat → Int32} {h0 g al wd hh l0 l1 l2 l3 p0 p1 p2 p3 ln pn h1 b0 b1 b2 b3 b4 b5 b6 b7 b8 b9 b10 b11 b12 b13 b14 b15 b16 b17 : Nat} {kp0 kp1 kp2 kp3 kn kb0 kb1 kb2 kb3 kb4 kb5 kb6 kb7 kb8 kb9 kb10 kb11 kb12 kb13 kb14 kb15 kb16 kb17 : ClassId} (hx : p.tables.exec = Jvm.exec) (hb : c.code = code) (hml : c.maxLocals = 4) (hown : s.vm.findClass "SpannedCellsLaw" = some m.cls) (hz : ∀ w9 ∈ zT, w9.before #[Value.ref b] s = true) (hXs : va_X b L xs s s.heap) (hbl : b < s.heap.size) (hAb : ¬ A b) (hA : ∀ q : Nat, s.heap.size ≤ q → A q) (hN : zN s) (hX : zY t ty mi A s) (hL : L ≤ 3072) (fin : ∀ cl sl : Nat, cl ≤ 600000 → sl ≤ 7302250 → ∀ (H : Heap) (locs : List Loc) (ls : Array Slot), va_S A s.heap H locs → W p l e room_1 s m #[Value.ref b] below meth c H locs cl sl Q (F0 m 621 ls [])) : ∀ f i cl sl : Nat, L < i + 6 * f + 6 → i ≤ 3072 → cl + 2 * f ≤ 600000 → sl + 68 * f ≤ 7302250 → zAtE p l e s m below meth c Q A dC dI b h0 g al wd hh l0 l1 l2 l3 p0 p1 p2 p3 ln pn h1 b0 b1 b2 b3 b4 b5 b6 b7 b8 b9 b10 b11 b12 b13 b14 b15 b16 b17 kp0 kp1 kp2 kp3 kn kb0 kb1 kb2 kb3 kb4 kb5 kb6 kb7 kb8 kb9 kb10 kb11 kb12 kb13 kb14 kb15 kb16 kb17 t i cl sl 18 := by
  intro f
  induction f with
  | zero =>
    intro i cl sl h1 h2 h3 h4
    exact lawH_E l hx hb hml hown hz hXs hbl hAb hA hN hX hL h2 (fin cl sl (by omega) (by omega)) (fun h6 => absurd h6 (by omega))
  | succ f ih =>
    intro i cl sl h1 h2 h3 h4
    refine lawH_E l hx hb hml hown hz hXs hbl hAb hA hN hX hL h2 (fin cl sl (by omega) (by omega)) (fun h6 => ?_)
    exact lawS_E l hx hb hml hown hz hXs hbl hAb hA hN hX hL h6 (by omega) (by omega) (lawB_E l hx hb hml hown hz hXs hbl hAb hA hN hX (ih (i + 6) (cl + 2) (sl + 68) (by omega) (by omega) (by omega) (by omega))) (lawB_N l hx hb hml hown hz hXs hbl hAb hA hN hX (lawL_N l hx hb hml hown hz hXs hbl hAb hA hN hX hL fin f (i + 6) (cl + 2) (sl + 68) (by omega) (by omega) (by omega) (by omega)))
