/-! ===== my own rows: the order of a world, cells pushed, writers that answer a cell ===== -/
theorem zD_iff {A : Nat → Prop} {ws : va_W} : va_D A ws ↔ (ws.map (fun q => q.1)).Nodup ∧ ∀ q ∈ ws, A q.1 := by
  constructor
  · intro h
    refine ⟨?_, fun q hq => ?_⟩
    · rw [List.Nodup, List.pairwise_iff_getElem]
      intro i j hi hj hij e
      have hi' : i < ws.length := by simpa using hi
      have hj' : j < ws.length := by simpa using hj
      rw [List.getElem_map, List.getElem_map] at e
      have := h.1 i j _ _ (List.getElem?_eq_getElem hi') (List.getElem?_eq_getElem hj') e
      omega
    · obtain ⟨i, hi⟩ := List.getElem?_of_mem hq
      exact h.2 i q hi
  · rintro ⟨h1, h2⟩
    rw [List.Nodup, List.pairwise_iff_getElem] at h1
    refine ⟨fun i j p q hp hq e => ?_, fun k q hk => h2 q (List.mem_of_getElem? hk)⟩
    obtain ⟨hi, rfl⟩ := List.getElem?_eq_some_iff.mp hp
    obtain ⟨hj, rfl⟩ := List.getElem?_eq_some_iff.mp hq
    have li : i < (ws.map (fun q => q.1)).length := by simpa using hi
    have lj : j < (ws.map (fun q => q.1)).length := by simpa using hj
    rcases Nat.lt_trichotomy i j with h | h | h
    · refine absurd ?_ (h1 i j li lj h)
      rw [List.getElem_map, List.getElem_map]
      exact e
    · exact h
    · refine absurd ?_ (h1 j i lj li h)
      rw [List.getElem_map, List.getElem_map]
      exact e.symm
theorem zD_perm {A : Nat → Prop} {ws ws' : va_W} (hp : ws.Perm ws') (h : va_D A ws) : va_D A ws' := by
  rw [zD_iff] at h ⊢
  exact ⟨(hp.map _).nodup_iff.mp h.1, fun q hq => h.2 q (hp.mem_iff.mpr hq)⟩
theorem zP_perm {D : va_G} {cl : List vw_C} {ws ws' : va_W} {H : Heap} (hp : ws.Perm ws') (h : va_P D cl ws H) : va_P D cl ws' H := zt_of (fun _ hq => zt_mem h (hp.mem_iff.mpr hq))
theorem z_pm {X T : va_W} {q : Nat × va_E} : ((X ++ T) ++ [q]).Perm ((X ++ [q]) ++ T) := by
  rw [List.append_assoc, List.append_assoc]
  exact List.Perm.append_left X List.perm_append_comm
theorem z_pm2 {X T : va_W} {q : Nat × va_E} : ((X ++ [q]) ++ T).Perm (X ++ (T ++ [q])) := by
  rw [List.append_assoc]
  exact List.Perm.append_left X List.perm_append_comm
/-- one more cell -/
def zpu (d : Nat → Nat → Nat) (n : Nat) (g : Nat → Nat) : Nat → Nat → Nat := fun j k => if k = n then g j else d j k
theorem zpu_s {d : Nat → Nat → Nat} {n : Nat} {g : Nat → Nat} {j : Nat} : zpu d n g j n = g j := if_pos rfl
theorem zpu_n {d : Nat → Nat → Nat} {n : Nat} {g : Nat → Nat} {j k : Nat} (h : k ≠ n) : zpu d n g j k = d j k := if_neg h
def zrec (f0 f1 f2 f3 f4 f5 f6 f7 f8 f9 : Nat) : Nat → Nat := fun j => match j with
  | 0 => f0 | 1 => f1 | 2 => f2 | 3 => f3 | 4 => f4 | 5 => f5 | 6 => f6 | 7 => f7 | 8 => f8 | 9 => f9 | _ => 0
theorem zcs_push {n x : Nat} {ad : Nat → Nat} {d : Nat → Nat → Nat} {g : Nat → Nat} : zcs (n + 1) (va_up ad n x) (zcf (zpu d n g)) = zcs n ad (zcf d) ++ [(x, .inr (7, zcf (fun j _ => g j) 0))] := by
  unfold zcs
  rw [List.range_succ, List.map_append]
  congr 1
  · apply List.map_congr_left
    intro k hk
    have hk := List.mem_range.mp hk
    have hne : k ≠ n := by omega
    rw [va_up_ne _ _ hne]
    simp only [zcf, zpu_n hne]
  · simp only [List.map_cons, List.map_nil, va_up_self, zcf, zpu_s]
theorem zpu_le {d : Nat → Nat → Nat} {n B : Nat} {g : Nat → Nat} (hd : ∀ j k, k < n → d j k ≤ B) (hg : ∀ j, g j ≤ B) : ∀ j k, k < n + 1 → zpu d n g j k ≤ B := by
  intro j k hk
  by_cases h : k = n
  · subst h; rw [zpu_s]; exact hg j
  · rw [zpu_n h]; exact hd j k (by omega)
theorem zrec_le {f0 f1 f2 f3 f4 f5 f6 f7 f8 f9 B : Nat} (h : f0 ≤ B ∧ f1 ≤ B ∧ f2 ≤ B ∧ f3 ≤ B ∧ f4 ≤ B ∧ f5 ≤ B ∧ f6 ≤ B ∧ f7 ≤ B ∧ f8 ≤ B ∧ f9 ≤ B) : ∀ j, zrec f0 f1 f2 f3 f4 f5 f6 f7 f8 f9 j ≤ B := by
  intro j
  match j with
  | 0 => exact h.1
  | 1 => exact h.2.1
  | 2 => exact h.2.2.1
  | 3 => exact h.2.2.2.1
  | 4 => exact h.2.2.2.2.1
  | 5 => exact h.2.2.2.2.2.1
  | 6 => exact h.2.2.2.2.2.2.1
  | 7 => exact h.2.2.2.2.2.2.2.1
  | 8 => exact h.2.2.2.2.2.2.2.2.1
  | 9 => exact h.2.2.2.2.2.2.2.2.2
  | (j + 10) => exact Nat.zero_le _
/-- a writer that answers a cell -/
def zw_Br {S : Type} (D : va_G) (cl : List vw_C) (A : Nat → Prop) (w1 : S → va_W) (t1 : S → List (ClassId × FieldType)) (ad : S → Nat) (u : S) (a : Nat) (t : State) : Prop := a = ad u ∧ zw_B D cl A w1 t1 u t
abbrev zw_Mr {S : Type} (l : Launch) (y : MethodName) (ws : List Cond) (rm : Room) (av : List Value) (D : va_G) (cl : List vw_C) (wc : va_W) (tc : List (ClassId × FieldType)) (X : (Nat → Prop) → State → Prop) (post : S → Prop) (w1 : S → va_W) (t1 : S → List (ClassId × FieldType)) (ad : S → Nat) (mc ms : Nat) : Prop :=
  ∀ sz : Nat, Met l y ws rm (va_Pc av (zw_pre D cl wc tc X sz)) (va_Qr post (zw_Br D cl (va_A wc sz) w1 t1 ad) (va_A wc sz)) mc ms (va_A wc sz)
section ZHEADWR
variable {l : Launch} {y : MethodName} {ws ws' : List Cond} {rm : Room} {av : List Value} {D : va_G} {cl : List vw_C} {wc : va_W} {tc : List (ClassId × FieldType)} {cc : ByteArray} {maxL : Nat} {ret : Option FieldType}
theorem zw_headr {S : Type} {X : (Nat → Prop) → State → Prop} {post : S → Prop} {w1 : S → va_W} {t1 : S → List (ClassId × FieldType)} {ad : S → Nat} {mc ms : Nat} (hy : plainName y.cls = true) (hw : ws = Cond.code y cc maxL ret :: ws') (hlen : (lg_sl av).length ≤ maxL)
    (body : ∀ (p : Program) (e : Env) (s : State) (m : MethodId) (below : List Frame) (meth : Method) (c : Code) (ls : Array Slot) (A : Nat → Prop), z_Fix p m meth c cc maxL ret s av.toArray ws y.cls → (∀ q : Nat, s.heap.size ≤ q → A q) → va_P D cl wc s.heap → va_K D cl tc s → va_D A wc → va_S A s.heap s.heap [] → X A s → lv_has ls maxL (lv_args 0 av) →
      W p l e rm s m av.toArray below meth c s.heap [] 0 0 (MQ below (va_Qr post (zw_Br D cl A w1 t1 ad) A) av.toArray s mc ms A) (F0 m 0 ls [])) : zw_Mr l y ws rm av D cl wc tc X post w1 t1 ad mc ms := by
  intro sz
  refine Met.ofW (cc := cc) (maxL := maxL) (ret := ret) hy hw ?_
  intro p e s m args below meth c s₁ B hml hv
  obtain ⟨rfl, hsz, hP, hK, hD0, hX⟩ := hv
  subst hsz
  rw [lg_entry_eq]
  exact body p e s m below meth c _ (va_A wc s.heap.size) ⟨B.exec, B.bytes, hml, B.returns, B.notSynchronized, findClass_of_methodNamed B.named, atoms_spec (ws := ws) B.pre⟩ (fun q h => Or.inr h) hP hK hD0.self va_S.rf hX (lv_entry av hlen)
end ZHEADWR
section ZWR
variable {p : Program} {l : Launch} {e : Env} {R : Room} {s : State} {m : MethodId} {args : Array Value} {below : List Frame} {meth : Method} {c : Code} {H : Heap} {locs : List Loc} {cells slots : Nat} {Q : State → Prop}
variable {cc : ByteArray} {pc : Nat} {ls : Array Slot} {rest st0 : List Value} {a : Array Value} {A : Nat → Prop} {H0 : Heap} {mc ms : Nat} {D : va_G} {cl : List vw_C} {tys tc : List (ClassId × FieldType)} {ws wc wr : va_W} {av : List Value}
theorem zw_aret {S : Type} {post : S → Prop} {w1 : S → va_W} {t1 : S → List (ClassId × FieldType)} {ad : S → Nat} {v : Nat} {rt : FieldType} (u : S) (hx : p.tables.exec = Jvm.exec) (hb : c.code = cc) (hr : meth.sig.returnType = some rt) (hrt : (∃ n, rt = .object n) ∨ ∃ t, rt = .array t) (hlocks : meth.locks = false) (hv : v = ad u) (hq : post u) (hP : va_P D cl (w1 u) H) (hK : va_K D cl (t1 u) s) (hD : va_D A (w1 u)) (hS : va_S A s.heap H locs) (hdg : decode cc pc = .ok (.areturn, 1)) :
    W p l e R s m args below meth c H locs cells slots (MQ below (va_Qr post (zw_Br D cl A w1 t1 ad) A) args s cells slots A) (F0 m pc ls [.ref v]) :=
  W.aret (free := A) hx hb hr hrt (Or.inr ⟨v, rfl⟩) (fun t ht hW => ⟨⟨u, v, rfl, hq, hv, by rw [ht]; exact hP, va_K.moved hW.alike hK, hD⟩, hS.F ht⟩) hS.2.2 hdg hlocks
theorem zw_callr {S : Type} {post : S → Prop} {w1 : S → va_W} {t1 : S → List (ClassId × FieldType)} {ad : S → Nat} (hK : va_K D cl tys s) (hP : va_P D cl ws H) (hD : va_D A ws) (hS : va_S A H0 H locs) (hA : ∀ q, H0.size ≤ q → A q) (isC isR : List Nat) (hC : isC.map (fun i => ws[i]?) = wc.map some) (hR : isR.map (fun i => ws[i]?) = wr.map some) (hn : va_nd isR = true) (hdis : ∀ i ∈ isR, i ∉ isC)
    (hr : va_Run p l e R s m args below meth c H locs cells slots mc ms (F0 m pc ls st0) rest (va_Qr post (zw_Br D cl (va_A wc H.size) w1 t1 ad) (va_A wc H.size) a) (va_A wc H.size))
    (kk : ∀ (u : S) (H1 : Heap) (locs1 : List Loc), post u → va_P D cl (wr ++ w1 u) H1 → va_D A (wr ++ w1 u) → va_K D cl (tys ++ t1 u) s → va_S A H0 H1 locs1 → W p l e R s m args below meth c H1 locs1 (cells + mc) (slots + ms) Q (F0 m (pc + 3) ls (.ref (ad u) :: rest))) : W p l e R s m args below meth c H locs cells slots Q (F0 m pc ls st0) := by
  have hFc := va_free (wc := wc) hD hS hA isC hC
  refine va_callr hr hS (fun q _ h => hFc q h) hFc (fun u ra t H1 locs1 ht hvm hw hB hz1 hk1 hS1 => ?_)
  obtain ⟨rfl, hP1, hK1, hD1⟩ := hB
  rw [ht] at hP1
  obtain ⟨hP2, hD2⟩ := va_join (wr := wr) (w1 := w1 u) hP hD isC isR hC hR hn hdis hk1 hFc hP1 hD1
  exact kk u H1 locs1 hw hP2 hD2 (hK.app (va_K.moved hvm.symm hK1)) hS1
theorem zw_callTr {S : Type} {post : S → Prop} {w1 T1 : S → va_W} {t1 : S → List (ClassId × FieldType)} {ad : S → Nat} {X T wc wr : va_W} (hK : va_K D cl tys s) (hP : va_P D cl (X ++ T) H) (hD : va_D A (X ++ T)) (hS : va_S A H0 H locs) (hA : ∀ q, H0.size ≤ q → A q) (isC isR : List Nat) (hC : isC.map (fun i => X[i]?) = wc.map some) (hR : isR.map (fun i => X[i]?) = wr.map some) (hn : va_nd isR = true) (hdis : ∀ i ∈ isR, i ∉ isC)
    (hr : va_Run p l e R s m args below meth c H locs cells slots mc ms (F0 m pc ls st0) rest (va_Qr post (zw_Br D cl (va_A (wc ++ T) H.size) (fun u => w1 u ++ T1 u) t1 ad) (va_A (wc ++ T) H.size) a) (va_A (wc ++ T) H.size))
    (kk : ∀ (u : S) (H1 : Heap) (locs1 : List Loc), post u → va_P D cl ((wr ++ w1 u) ++ T1 u) H1 → va_D A ((wr ++ w1 u) ++ T1 u) → va_K D cl (tys ++ t1 u) s → va_S A H0 H1 locs1 → W p l e R s m args below meth c H1 locs1 (cells + mc) (slots + ms) Q (F0 m (pc + 3) ls (.ref (ad u) :: rest))) : W p l e R s m args below meth c H locs cells slots Q (F0 m pc ls st0) :=
  zw_callr (wr := wr) hK hP hD hS hA (isC ++ z_shift X.length T.length) isR (z_shiftC hC) (z_shiftR hR).1 hn (z_disT (z_shiftR (T := T) hR).2 hdis) hr (fun u H1 locs1 h1 h2 h3 h4 h5 => kk u H1 locs1 h1 (by rw [List.append_assoc]; exact h2) (by rw [List.append_assoc]; exact h3) h4 h5)
theorem z_freeT {X T wc : va_W} (hD : va_D A (X ++ T)) (hS : va_S A H0 H locs) (hA : ∀ q, H0.size ≤ q → A q) (isC : List Nat) (hC : isC.map (fun i => X[i]?) = wc.map some) : ∀ q, va_A (wc ++ T) H.size q → A q :=
  va_free (wc := wc ++ T) hD hS hA (isC ++ z_shift X.length T.length) (z_shiftC hC)
/-- the class of an array, by its name -/
theorem z_recvA {q0 t0 : Nat} {v n : Nat} {cA : ClassId} {f : Nat → Option Nat} (hK : va_K D cl tys s) (hP : va_P D cl ws H) (he : ws[q0]? = some (v, .inl (cA, n, .inr (.inr (.inr (.inr f)))))) (ht : tys[t0]? = some (cA, .object "java/lang/Object")) : ∃ cell : Cell, H[v]? = some cell ∧ cell.vm.isStatics = false ∧ s.vm.findClass "[Ljava/lang/Object;" = some cell.cls :=
  ⟨_, hP q0 _ he, rfl, va_nmO (hK.2 t0 _ ht).2 (by decide)⟩
end ZWR
/-! what the first and the later growing of a list want besides -/
def zE0 (t : Nat) (ty : FieldType) (A : Nat → Prop) (U : State) : Prop := va_Z "java/util/ArrayList" "DEFAULTCAPACITY_EMPTY_ELEMENTDATA" "[Ljava/lang/Object;" (.ref t) A U U.heap ∧ va_T ty t 0 (fun _ => .null) A U U.heap
def zG0 (mi : Nat) (U : State) : Prop := zN U ∧ va_Nw (.castable "SpannedCells$Cell" "java/lang/Object") U ∧ va_AO "java/lang/Object" U ∧ va_Mi "[Ljava/lang/Object;" mi U ∧ va_Dc U
def zY (t : Nat) (ty : FieldType) (mi : Nat) (A : Nat → Prop) (U : State) : Prop := zG0 mi U ∧ zE0 t ty A U
theorem zG0_blind {mi : Nat} : z_blind (zG0 mi) := fun a U g mk h => ⟨zN_blind a U g mk h.1, va_Nw.same (u := U) rfl rfl h.2.1, va_AO.moved (u := U) (U := U.calling g mk a) (Vm.Alike.refl U.vm) h.2.2.1, va_Mi.moved (u := U) (U := U.calling g mk a) (Vm.Alike.refl U.vm) h.2.2.2.1, va_Dc.moved (u := U) (U := U.calling g mk a) (Vm.Alike.refl U.vm) h.2.2.2.2⟩
theorem zG0_warm {mi : Nat} {s U : State} (hW : s.WarmedH U.vm) (h : zG0 mi s) : zG0 mi U := ⟨zN_warm hW h.1, va_Nw.warmC hW h.2.1, va_AO.moved hW.alike h.2.2.1, va_Mi.moved hW.alike h.2.2.2.1, va_Dc.moved hW.alike h.2.2.2.2⟩
theorem zG0_call {mi : Nat} {s : State} {H : Heap} (h : zG0 mi s) : ∀ U : State, U.heap = H → s.WarmedH U.vm → zG0 mi U := fun _ _ hW => zG0_warm hW h
theorem zY_blind {t mi : Nat} {ty : FieldType} {A : Nat → Prop} : z_blind (zY t ty mi A) := fun a U g mk h => ⟨zG0_blind a U g mk h.1, va_Z.moved (u := U) (U := U.calling g mk a) (Vm.Alike.refl U.vm) h.2.1, va_T.moved (u := U) (U := U.calling g mk a) (Vm.Alike.refl U.vm) h.2.2⟩
theorem zY_call {t mi : Nat} {ty : FieldType} {A : Nat → Prop} {s : State} {H : Heap} {locs : List Loc} {sz : Nat} {wc : va_W} (h : zY t ty mi A s) (hS : va_S A s.heap H locs) (hF : ∀ q, va_A wc sz q → A q) : ∀ U : State, U.heap = H → s.WarmedH U.vm → zY t ty mi (va_A wc sz) U := by
  intro U hU hW
  refine ⟨zG0_warm hW h.1, ?_, ?_⟩
  · rw [hU]
    exact ((h.2.1.kept hS.2.1).moved hW.alike).narrow hF
  · rw [hU]
    exact ((h.2.2.kept hS.2.1).moved hW.alike).narrow hF
theorem z_assign {s : State} (h : va_Nw (.castable "SpannedCells$Cell" "java/lang/Object") s) : ∀ comp c0 : ClassId, s.vm.findClass "java/lang/Object" = some comp → s.vm.findClass "SpannedCells$Cell" = some c0 → s.vm.assignable c0 comp = true := by
  intro comp c0 h1 h2
  obtain ⟨a, b, f1, f2, f3⟩ := Cond.castable_spec (va_Nw.use (A := #[]) rfl h)
  cases h1.symm.trans f2
  cases h2.symm.trans f1
  exact f3
theorem z_min {a b : Nat} (ha : a < 2147483648) (hb : b < 2147483648) : (if nI b < nI a then nI b else nI a) = nI (if b < a then b else a) := by
  by_cases h : b < a
  · rw [if_pos h, if_pos ((nI_ltI (by omega) (by omega)).mpr h)]
  · rw [if_neg h, if_neg (fun q => h ((nI_ltI (by omega) (by omega)).mp q))]
theorem z_addk {a : Nat → Option Nat} {ad : Nat → Nat} {n x : Nat} (h : ∀ k, k < n → a k = some (ad k)) : ∀ k, k < n + 1 → va_up a n (some x) k = some (va_up ad n x k) := by
  intro k hk
  by_cases e : k = n
  · subst e; rw [va_up_self, va_up_self]
  · rw [va_up_ne _ _ e, va_up_ne _ _ e]; exact h k (by omega)
