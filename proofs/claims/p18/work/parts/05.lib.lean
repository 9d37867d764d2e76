/-! ===== my own rows: contracts of readers (zp_) and of writers (zw_), their heads, ends and calls ===== -/
/-- a reader's start -/
def zp_pre (D : va_G) (cl : List vw_C) (wc : va_W) (tc : List (ClassId × FieldType)) (X : State → Prop) (U : State) : Prop := va_P D cl wc U.heap ∧ va_K D cl tc U ∧ X U
/-- a reader: it answers an int, and nothing changes -/
abbrev zp_M (l : Launch) (y : MethodName) (ws : List Cond) (rm : Room) (av : List Value) (D : va_G) (cl : List vw_C) (wc : va_W) (tc : List (ClassId × FieldType)) (X : State → Prop) (post : Int32 → Prop) : Prop :=
  Met l y ws rm (va_Pc av (zp_pre D cl wc tc X)) (vp_Si post) 0 0 (fun _ => False)
/-- a writer's start -/
def zw_pre (D : va_G) (cl : List vw_C) (wc : va_W) (tc : List (ClassId × FieldType)) (X : (Nat → Prop) → State → Prop) (sz : Nat) (U : State) : Prop := U.heap.size = sz ∧ va_P D cl wc U.heap ∧ va_K D cl tc U ∧ va_D (fun _ => True) wc ∧ X (va_A wc sz) U
/-- the world behind a writer -/
def zw_B {S : Type} (D : va_G) (cl : List vw_C) (A : Nat → Prop) (w1 : S → va_W) (t1 : S → List (ClassId × FieldType)) (u : S) (t : State) : Prop := va_P D cl (w1 u) t.heap ∧ va_K D cl (t1 u) t ∧ va_D A (w1 u)
abbrev zw_Mi {S : Type} (l : Launch) (y : MethodName) (ws : List Cond) (rm : Room) (av : List Value) (D : va_G) (cl : List vw_C) (wc : va_W) (tc : List (ClassId × FieldType)) (X : (Nat → Prop) → State → Prop) (post : Int32 → S → Prop) (w1 : S → va_W) (t1 : S → List (ClassId × FieldType)) (mc ms : Nat) : Prop :=
  ∀ sz : Nat, Met l y ws rm (va_Pc av (zw_pre D cl wc tc X sz)) (va_Qi post (zw_B D cl (va_A wc sz) w1 t1) (va_A wc sz)) mc ms (va_A wc sz)
abbrev zw_Mv {S : Type} (l : Launch) (y : MethodName) (ws : List Cond) (rm : Room) (av : List Value) (D : va_G) (cl : List vw_C) (wc : va_W) (tc : List (ClassId × FieldType)) (X : (Nat → Prop) → State → Prop) (post : S → Prop) (w1 : S → va_W) (t1 : S → List (ClassId × FieldType)) (mc ms : Nat) : Prop :=
  ∀ sz : Nat, Met l y ws rm (va_Pc av (zw_pre D cl wc tc X sz)) (va_Qv post (zw_B D cl (va_A wc sz) w1 t1) (va_A wc sz)) mc ms (va_A wc sz)
/-- what every walk stands on -/
def z_Fix (p : Program) (m : MethodId) (meth : Method) (c : Code) (cc : ByteArray) (nL : Nat) (ret : Option FieldType) (s : State) (args : Array Value) (Ts : List Cond) (own : String) : Prop :=
  p.tables.exec = Jvm.exec ∧ c.code = cc ∧ c.maxLocals = nL ∧ meth.sig.returnType = ret ∧ meth.locks = false ∧ s.vm.findClass own = some m.cls ∧ ∀ w ∈ Ts, w.before args s = true
theorem z_fm {α β : Type} {f : α → Option β} : ∀ (l : List α) (w : List β), l.map f = w.map some → l.filterMap f = w := by
  intro l
  induction l with
  | nil =>
    intro w h
    cases w with
    | nil => rfl
    | cons b w => cases h
  | cons a l ih =>
    intro w h
    cases w with
    | nil => cases h
    | cons b w =>
      rw [List.map_cons, List.map_cons, List.cons.injEq] at h
      rw [List.filterMap_cons, h.1, ih w h.2]
section ZHEAD
variable {l : Launch} {y : MethodName} {ws ws' : List Cond} {rm : Room} {av : List Value} {D : va_G} {cl : List vw_C} {wc : va_W} {tc : List (ClassId × FieldType)} {cc : ByteArray} {maxL : Nat} {ret : Option FieldType}
theorem zp_head {X : State → Prop} {post : Int32 → Prop} (hy : plainName y.cls = true) (hw : ws = Cond.code y cc maxL ret :: ws') (hlen : (lg_sl av).length ≤ maxL)
    (body : ∀ (p : Program) (e : Env) (s : State) (m : MethodId) (below : List Frame) (meth : Method) (c : Code) (ls : Array Slot), z_Fix p m meth c cc maxL ret s av.toArray ws y.cls → va_P D cl wc s.heap → va_K D cl tc s → X s → lv_has ls maxL (lv_args 0 av) →
      W p l e rm s m av.toArray below meth c s.heap [] 0 0 (MQ below (vp_Si post) av.toArray s 0 0 (fun _ => False)) (F0 m 0 ls [])) : zp_M l y ws rm av D cl wc tc X post := by
  refine Met.ofW (cc := cc) (maxL := maxL) (ret := ret) hy hw ?_
  intro p e s m args below meth c s₁ B hml hv
  obtain ⟨rfl, hP, hK, hX⟩ := hv
  rw [lg_entry_eq]
  exact body p e s m below meth c _ ⟨B.exec, B.bytes, hml, B.returns, B.notSynchronized, findClass_of_methodNamed B.named, atoms_spec (ws := ws) B.pre⟩ hP hK hX (lv_entry av hlen)
theorem zw_headi {S : Type} {X : (Nat → Prop) → State → Prop} {post : Int32 → S → Prop} {w1 : S → va_W} {t1 : S → List (ClassId × FieldType)} {mc ms : Nat} (hy : plainName y.cls = true) (hw : ws = Cond.code y cc maxL ret :: ws') (hlen : (lg_sl av).length ≤ maxL)
    (body : ∀ (p : Program) (e : Env) (s : State) (m : MethodId) (below : List Frame) (meth : Method) (c : Code) (ls : Array Slot) (A : Nat → Prop), z_Fix p m meth c cc maxL ret s av.toArray ws y.cls → (∀ q : Nat, s.heap.size ≤ q → A q) → va_P D cl wc s.heap → va_K D cl tc s → va_D A wc → va_S A s.heap s.heap [] → X A s → lv_has ls maxL (lv_args 0 av) →
      W p l e rm s m av.toArray below meth c s.heap [] 0 0 (MQ below (va_Qi post (zw_B D cl A w1 t1) A) av.toArray s mc ms A) (F0 m 0 ls [])) : zw_Mi l y ws rm av D cl wc tc X post w1 t1 mc ms := by
  intro sz
  refine Met.ofW (cc := cc) (maxL := maxL) (ret := ret) hy hw ?_
  intro p e s m args below meth c s₁ B hml hv
  obtain ⟨rfl, hsz, hP, hK, hD0, hX⟩ := hv
  subst hsz
  rw [lg_entry_eq]
  exact body p e s m below meth c _ (va_A wc s.heap.size) ⟨B.exec, B.bytes, hml, B.returns, B.notSynchronized, findClass_of_methodNamed B.named, atoms_spec (ws := ws) B.pre⟩ (fun q h => Or.inr h) hP hK hD0.self va_S.rf hX (lv_entry av hlen)
theorem zw_headv {S : Type} {X : (Nat → Prop) → State → Prop} {post : S → Prop} {w1 : S → va_W} {t1 : S → List (ClassId × FieldType)} {mc ms : Nat} (hy : plainName y.cls = true) (hw : ws = Cond.code y cc maxL ret :: ws') (hlen : (lg_sl av).length ≤ maxL)
    (body : ∀ (p : Program) (e : Env) (s : State) (m : MethodId) (below : List Frame) (meth : Method) (c : Code) (ls : Array Slot) (A : Nat → Prop), z_Fix p m meth c cc maxL ret s av.toArray ws y.cls → (meth.name = y.name) → (∀ q : Nat, s.heap.size ≤ q → A q) → va_P D cl wc s.heap → va_K D cl tc s → va_D A wc → va_S A s.heap s.heap [] → X A s → lv_has ls maxL (lv_args 0 av) →
      W p l e rm s m av.toArray below meth c s.heap [] 0 0 (MQ below (va_Qv post (zw_B D cl A w1 t1) A) av.toArray s mc ms A) (F0 m 0 ls [])) : zw_Mv l y ws rm av D cl wc tc X post w1 t1 mc ms := by
  intro sz
  refine Met.ofW (cc := cc) (maxL := maxL) (ret := ret) hy hw ?_
  intro p e s m args below meth c s₁ B hml hv
  obtain ⟨rfl, hsz, hP, hK, hD0, hX⟩ := hv
  subst hsz
  rw [lg_entry_eq]
  exact body p e s m below meth c _ (va_A wc s.heap.size) ⟨B.exec, B.bytes, hml, B.returns, B.notSynchronized, findClass_of_methodNamed B.named, atoms_spec (ws := ws) B.pre⟩ (name_of_methodNamed B.named B.method).1 (fun q h => Or.inr h) hP hK hD0.self va_S.rf hX (lv_entry av hlen)
end ZHEAD
section ZEND
variable {p : Program} {l : Launch} {e : Env} {R : Room} {s : State} {m : MethodId} {args : Array Value} {below : List Frame} {meth : Method} {c : Code} {H : Heap} {locs : List Loc} {cells slots : Nat}
variable {cc : ByteArray} {pc : Nat} {ls : Array Slot} {D : va_G} {cl : List vw_C} {A : Nat → Prop}
/-- a reader's end -/
theorem zp_iret {post : Int32 → Prop} {v : Int32} (hx : p.tables.exec = Jvm.exec) (hb : c.code = cc) (hr : meth.sig.returnType = some .int) (hlocks : meth.locks = false) (hq : post v) (hdg : decode cc pc = .ok (.ireturn, 1)) :
    W p l e R s m args below meth c s.heap [] 0 0 (MQ below (vp_Si post) args s 0 0 (fun _ => False)) (F0 m pc ls [.int v]) :=
  W.iret (free := fun _ => False) hx hb hr (fun t ht _ => ⟨v, rfl, hq, ht⟩) (fun q h => by cases h) hdg hlocks
theorem zp_zret {post : Int32 → Prop} {v : Int32} (hx : p.tables.exec = Jvm.exec) (hb : c.code = cc) (hr : meth.sig.returnType = some .boolean) (hlocks : meth.locks = false) (hn : v = 0 ∨ v = 1) (hq : post v) (hdg : decode cc pc = .ok (.ireturn, 1)) :
    W p l e R s m args below meth c s.heap [] 0 0 (MQ below (vp_Si post) args s 0 0 (fun _ => False)) (F0 m pc ls [.int v]) :=
  W.zret (free := fun _ => False) hx hb hr (by rcases hn with rfl | rfl <;> rfl) (fun t ht _ => ⟨v, rfl, hq, ht⟩) (fun q h => by cases h) hdg hlocks
/-- a writer's end -/
theorem zw_iret {S : Type} {post : Int32 → S → Prop} {w1 : S → va_W} {t1 : S → List (ClassId × FieldType)} {v : Int32} (u : S) (hx : p.tables.exec = Jvm.exec) (hb : c.code = cc) (hr : meth.sig.returnType = some .int) (hlocks : meth.locks = false) (hq : post v u) (hP : va_P D cl (w1 u) H) (hK : va_K D cl (t1 u) s) (hD : va_D A (w1 u)) (hS : va_S A s.heap H locs) (hdg : decode cc pc = .ok (.ireturn, 1)) :
    W p l e R s m args below meth c H locs cells slots (MQ below (va_Qi post (zw_B D cl A w1 t1) A) args s cells slots A) (F0 m pc ls [.int v]) :=
  W.iret (free := A) hx hb hr (fun t ht hW => ⟨⟨v, u, rfl, hq, by rw [ht]; exact hP, va_K.moved hW.alike hK, hD⟩, hS.F ht⟩) hS.2.2 hdg hlocks
theorem zw_zret {S : Type} {post : Int32 → S → Prop} {w1 : S → va_W} {t1 : S → List (ClassId × FieldType)} {v : Int32} (u : S) (hx : p.tables.exec = Jvm.exec) (hb : c.code = cc) (hr : meth.sig.returnType = some .boolean) (hlocks : meth.locks = false) (hn : v = 0 ∨ v = 1) (hq : post v u) (hP : va_P D cl (w1 u) H) (hK : va_K D cl (t1 u) s) (hD : va_D A (w1 u)) (hS : va_S A s.heap H locs) (hdg : decode cc pc = .ok (.ireturn, 1)) :
    W p l e R s m args below meth c H locs cells slots (MQ below (va_Qi post (zw_B D cl A w1 t1) A) args s cells slots A) (F0 m pc ls [.int v]) :=
  W.zret (free := A) hx hb hr (by rcases hn with rfl | rfl <;> rfl) (fun t ht hW => ⟨⟨v, u, rfl, hq, by rw [ht]; exact hP, va_K.moved hW.alike hK, hD⟩, hS.F ht⟩) hS.2.2 hdg hlocks
theorem zw_vret {S : Type} {post : S → Prop} {w1 : S → va_W} {t1 : S → List (ClassId × FieldType)} (u : S) (hx : p.tables.exec = Jvm.exec) (hb : c.code = cc) (hr : meth.sig.returnType = none) (hlocks : meth.locks = false) (hq : post u) (hP : va_P D cl (w1 u) H) (hK : va_K D cl (t1 u) s) (hD : va_D A (w1 u)) (hS : va_S A s.heap H locs) (hdg : decode cc pc = .ok (.return_, 1)) :
    W p l e R s m args below meth c H locs cells slots (MQ below (va_Qv post (zw_B D cl A w1 t1) A) args s cells slots A) (F0 m pc ls []) :=
  W.vret (free := A) hx hb hr (fun t ht hW => ⟨⟨u, rfl, hq, by rw [ht]; exact hP, va_K.moved hW.alike hK, hD⟩, hS.F ht⟩) hS.2.2 hdg hlocks
end ZEND
section ZCALL
variable {p : Program} {l : Launch} {e : Env} {R : Room} {s : State} {m : MethodId} {args : Array Value} {below : List Frame} {meth : Method} {c : Code} {H : Heap} {locs : List Loc} {cells slots : Nat} {Q : State → Prop}
variable {pc : Nat} {ls : Array Slot} {rest st0 : List Value} {a : Array Value} {A : Nat → Prop} {H0 : Heap} {mc ms : Nat} {D : va_G} {cl : List vw_C} {tys tc : List (ClassId × FieldType)} {ws wc wr : va_W} {av : List Value}
def z_blind (X : State → Prop) : Prop := ∀ (a : Array Value) (U : State) (g : JFrame) (mk : MethodId), X U → X (U.calling g mk a)
theorem zp_preS {X : State → Prop} (hK : va_K D cl tys s) (hP : va_P D cl ws H) (isC : List Nat) (hC : isC.filterMap (fun i => ws[i]?) = wc) (isT : List Nat) (hT : isT.filterMap (fun i => tys[i]?) = tc) (hXb : z_blind X) (hX : ∀ U : State, U.heap = H → s.WarmedH U.vm → X U) : PreS s H (va_Pc av (zp_pre D cl wc tc X)) av :=
  ⟨fun a U g mk q => by obtain ⟨q0, qP, qK, qX⟩ := q; exact ⟨q0, qP, va_K.moved (u := U) (U := U.calling g mk a) (Vm.Alike.refl U.vm) qK, hXb a U g mk qX⟩,
   fun U hU hW => ⟨rfl, by rw [hU]; exact hP.sub isC hC, va_K.moved hW.alike (hK.sub isT hT), hX U hU hW⟩⟩
theorem zp_preV {X : State → Prop} {b q0 ci : Nat} {q : vw_C} {fs As : List Value} (hK : va_K D cl tys s) (hP : va_P D cl ws H) (he : ws[q0]? = some (b, .inr (ci, fs))) (hc : cl[ci]? = some q) (isC : List Nat) (hC : isC.filterMap (fun i => ws[i]?) = wc) (isT : List Nat) (hT : isT.filterMap (fun i => tys[i]?) = tc) (hXb : z_blind X) (hX : ∀ U : State, U.heap = H → s.WarmedH U.vm → X U) : PreV s H q.1 b (va_Pc (.ref b :: As) (zp_pre D cl wc tc X)) As :=
  ⟨(zp_preS (av := .ref b :: As) hK hP isC hC isT hT hXb hX).1, va_recv hK hP hc he, (zp_preS (av := .ref b :: As) hK hP isC hC isT hT hXb hX).2⟩
theorem zw_preS {X : (Nat → Prop) → State → Prop} (hK : va_K D cl tys s) (hP : va_P D cl ws H) (hD : va_D A ws) (isC : List Nat) (hnC : va_nd isC = true) (hC : isC.map (fun i => ws[i]?) = wc.map some) (isT : List Nat) (hT : isT.filterMap (fun i => tys[i]?) = tc) (hXb : z_blind (X (va_A wc H.size))) (hX : ∀ U : State, U.heap = H → s.WarmedH U.vm → X (va_A wc H.size) U) : PreS s H (va_Pc av (zw_pre D cl wc tc X H.size)) av :=
  ⟨fun a U g mk q => by obtain ⟨q0, q1, qP, qK, qD, qX⟩ := q; exact ⟨q0, q1, qP, va_K.moved (u := U) (U := U.calling g mk a) (Vm.Alike.refl U.vm) qK, qD, hXb a U g mk qX⟩,
   fun U hU hW => ⟨rfl, by rw [hU], by rw [hU]; exact hP.sub isC (z_fm isC wc hC), va_K.moved hW.alike (hK.sub isT hT), (hD.sub isC hnC hC).weaken (fun _ _ _ _ => trivial), hX U hU hW⟩⟩
theorem zw_preV {X : (Nat → Prop) → State → Prop} {b q0 ci : Nat} {q : vw_C} {fs As : List Value} (hK : va_K D cl tys s) (hP : va_P D cl ws H) (hD : va_D A ws) (he : ws[q0]? = some (b, .inr (ci, fs))) (hc : cl[ci]? = some q) (isC : List Nat) (hnC : va_nd isC = true) (hC : isC.map (fun i => ws[i]?) = wc.map some) (isT : List Nat) (hT : isT.filterMap (fun i => tys[i]?) = tc) (hXb : z_blind (X (va_A wc H.size))) (hX : ∀ U : State, U.heap = H → s.WarmedH U.vm → X (va_A wc H.size) U) : PreV s H q.1 b (va_Pc (.ref b :: As) (zw_pre D cl wc tc X H.size)) As :=
  ⟨(zw_preS (av := .ref b :: As) hK hP hD isC hnC hC isT hT hXb hX).1, va_recv hK hP hc he, (zw_preS (av := .ref b :: As) hK hP hD isC hnC hC isT hT hXb hX).2⟩
theorem zw_calli {S : Type} {post : Int32 → S → Prop} {w1 : S → va_W} {t1 : S → List (ClassId × FieldType)} (hK : va_K D cl tys s) (hP : va_P D cl ws H) (hD : va_D A ws) (hS : va_S A H0 H locs) (hA : ∀ q, H0.size ≤ q → A q) (isC isR : List Nat) (hC : isC.map (fun i => ws[i]?) = wc.map some) (hR : isR.map (fun i => ws[i]?) = wr.map some) (hn : va_nd isR = true) (hdis : ∀ i ∈ isR, i ∉ isC)
    (hr : va_Run p l e R s m args below meth c H locs cells slots mc ms (F0 m pc ls st0) rest (va_Qi post (zw_B D cl (va_A wc H.size) w1 t1) (va_A wc H.size) a) (va_A wc H.size))
    (kk : ∀ (r : Int32) (u : S) (H1 : Heap) (locs1 : List Loc), post r u → va_P D cl (wr ++ w1 u) H1 → va_D A (wr ++ w1 u) → va_K D cl (tys ++ t1 u) s → va_S A H0 H1 locs1 → W p l e R s m args below meth c H1 locs1 (cells + mc) (slots + ms) Q (F0 m (pc + 3) ls (.int r :: rest))) : W p l e R s m args below meth c H locs cells slots Q (F0 m pc ls st0) := by
  have hFc := va_free (wc := wc) hD hS hA isC hC
  refine va_calli hr hS (fun q _ h => hFc q h) hFc (fun r u t H1 locs1 ht hvm hw hB hz1 hk1 hS1 => ?_)
  obtain ⟨hP1, hK1, hD1⟩ := hB
  rw [ht] at hP1
  obtain ⟨hP2, hD2⟩ := va_join (wr := wr) (w1 := w1 u) hP hD isC isR hC hR hn hdis hk1 hFc hP1 hD1
  exact kk r u H1 locs1 hw hP2 hD2 (hK.app (va_K.moved hvm.symm hK1)) hS1
theorem zw_callv {S : Type} {post : S → Prop} {w1 : S → va_W} {t1 : S → List (ClassId × FieldType)} (hK : va_K D cl tys s) (hP : va_P D cl ws H) (hD : va_D A ws) (hS : va_S A H0 H locs) (hA : ∀ q, H0.size ≤ q → A q) (isC isR : List Nat) (hC : isC.map (fun i => ws[i]?) = wc.map some) (hR : isR.map (fun i => ws[i]?) = wr.map some) (hn : va_nd isR = true) (hdis : ∀ i ∈ isR, i ∉ isC)
    (hr : va_Run p l e R s m args below meth c H locs cells slots mc ms (F0 m pc ls st0) rest (va_Qv post (zw_B D cl (va_A wc H.size) w1 t1) (va_A wc H.size) a) (va_A wc H.size))
    (kk : ∀ (u : S) (H1 : Heap) (locs1 : List Loc), post u → va_P D cl (wr ++ w1 u) H1 → va_D A (wr ++ w1 u) → va_K D cl (tys ++ t1 u) s → va_S A H0 H1 locs1 → W p l e R s m args below meth c H1 locs1 (cells + mc) (slots + ms) Q (F0 m (pc + 3) ls rest)) : W p l e R s m args below meth c H locs cells slots Q (F0 m pc ls st0) := by
  have hFc := va_free (wc := wc) hD hS hA isC hC
  refine va_callv hr hS (fun q _ h => hFc q h) hFc (fun u t H1 locs1 ht hvm hw hB hz1 hk1 hS1 => ?_)
  obtain ⟨hP1, hK1, hD1⟩ := hB
  rw [ht] at hP1
  obtain ⟨hP2, hD2⟩ := va_join (wr := wr) (w1 := w1 u) hP hD isC isR hC hR hn hdis hk1 hFc hP1 hD1
  exact kk u H1 locs1 hw hP2 hD2 (hK.app (va_K.moved hvm.symm hK1)) hS1
end ZCALL
section ZLOOP
variable {p : Program} {l : Launch} {e : Env} {R : Room} {s : State} {m : MethodId} {args : Array Value} {below : List Frame} {meth : Method} {c : Code} {cells slots : Nat} {Q : State → Prop} {pc : Nat} {st : List Value}
/-- a counted loop over a heap that stays -/
theorem zl_up {H : Heap} {locs : List Loc} {σ : Type} (n : Nat) (I : Nat → σ → Array Slot → Prop) (hex : ∀ (x : σ) (ls : Array Slot), I n x ls → W p l e R s m args below meth c H locs cells slots Q (F0 m pc ls st))
    (hst : ∀ i, i < n → (∀ (x : σ) (ls : Array Slot), I (i + 1) x ls → W p l e R s m args below meth c H locs cells slots Q (F0 m pc ls st)) → ∀ (x : σ) (ls : Array Slot), I i x ls → W p l e R s m args below meth c H locs cells slots Q (F0 m pc ls st)) :
    ∀ (i : Nat), i ≤ n → ∀ (x : σ) (ls : Array Slot), I i x ls → W p l e R s m args below meth c H locs cells slots Q (F0 m pc ls st) := by
  have h : ∀ k i, i + k = n → ∀ (x : σ) (ls : Array Slot), I i x ls → W p l e R s m args below meth c H locs cells slots Q (F0 m pc ls st) := by
    intro k
    induction k with
    | zero => intro i hi x ls h; have : i = n := by omega
              subst this; exact hex x ls h
    | succ k ih => intro i hi x ls h; exact hst i (by omega) (fun x ls h => ih (i + 1) (by omega) x ls h) x ls h
  intro i hi x ls hI
  exact h (n - i) i (by omega) x ls hI
/-- a counted loop that writes: x is what changes -/
theorem zl_upW {σ : Type} (n : Nat) (I : Nat → σ → Array Slot → Heap → List Loc → Prop) (hex : ∀ (x : σ) (ls : Array Slot) (H : Heap) (locs : List Loc), I n x ls H locs → W p l e R s m args below meth c H locs cells slots Q (F0 m pc ls st))
    (hst : ∀ i, i < n → (∀ (x : σ) (ls : Array Slot) (H : Heap) (locs : List Loc), I (i + 1) x ls H locs → W p l e R s m args below meth c H locs cells slots Q (F0 m pc ls st)) → ∀ (x : σ) (ls : Array Slot) (H : Heap) (locs : List Loc), I i x ls H locs → W p l e R s m args below meth c H locs cells slots Q (F0 m pc ls st)) :
    ∀ (i : Nat), i ≤ n → ∀ (x : σ) (ls : Array Slot) (H : Heap) (locs : List Loc), I i x ls H locs → W p l e R s m args below meth c H locs cells slots Q (F0 m pc ls st) := by
  have h : ∀ k i, i + k = n → ∀ (x : σ) (ls : Array Slot) (H : Heap) (locs : List Loc), I i x ls H locs → W p l e R s m args below meth c H locs cells slots Q (F0 m pc ls st) := by
    intro k
    induction k with
    | zero => intro i hi x ls H locs h; have : i = n := by omega
              subst this; exact hex x ls H locs h
    | succ k ih => intro i hi x ls H locs h; exact hst i (by omega) (fun x ls H locs h => ih (i + 1) (by omega) x ls H locs h) x ls H locs h
  intro i hi x ls H locs hI
  exact h (n - i) i (by omega) x ls H locs hI
end ZLOOP
section ZQ
variable {p : Program} {l : Launch} {e : Env} {R : Room} {s : State} {m : MethodId} {args : Array Value} {below : List Frame} {meth : Method} {c : Code} {H : Heap} {locs : List Loc} {cells slots : Nat} {Q0 : State → Prop} {g : JFrame}
/-- the end gets a name -/
theorem z_q (k : ∀ Q : State → Prop, Q = Q0 → W p l e R s m args below meth c H locs cells slots Q g) : W p l e R s m args below meth c H locs cells slots Q0 g := k Q0 rfl
/-- a place where roads meet -/
theorem z_join {α : Type} {G : Prop} (P : α → Prop) (T : α → Prop) (k : ∀ v, P v → T v) (h : (∀ v, P v → T v) → G) : G := h k
end ZQ
theorem z_true : z_blind (fun _ => True) := fun _ _ _ _ _ => trivial
