section ZST
variable {s : State} {H : Heap} {A : Nat → Prop} {D : va_G} {cl : List vw_C} {tys : List (ClassId × FieldType)}
theorem zw_preST {XX : (Nat → Prop) → State → Prop} {av : List Value} {X T wc : va_W} {tc : List (ClassId × FieldType)} (hK : va_K D cl tys s) (hP : va_P D cl (X ++ T) H) (hD : va_D A (X ++ T)) (isC : List Nat) (hnC : va_nd isC = true) (hC : isC.map (fun i => X[i]?) = wc.map some) (isT : List Nat) (hT : isT.filterMap (fun i => tys[i]?) = tc) (hXb : z_blind (XX (va_A (wc ++ T) H.size))) (hX : ∀ U : State, U.heap = H → s.WarmedH U.vm → XX (va_A (wc ++ T) H.size) U) : PreS s H (va_Pc av (zw_pre D cl (wc ++ T) tc XX H.size)) av :=
  ⟨fun aa U g mk q => by obtain ⟨q0, q1, qP, qK, qD, qX⟩ := q; exact ⟨q0, q1, qP, va_K.moved (u := U) (U := U.calling g mk aa) (Vm.Alike.refl U.vm) qK, qD, hXb aa U g mk qX⟩,
   fun U hU hW => ⟨rfl, by rw [hU], by rw [hU]; exact zt_sub hP isC (z_fm isC wc hC), va_K.moved hW.alike (hK.sub isT hT), (zt_subD hD isC hnC hC).weaken (fun _ _ _ _ => trivial), hX U hU hW⟩⟩
end ZST
