/-! ===== sums and shares: what the lines hold ===== -/
def zRs (f : Nat → Nat) (i0 e : Nat) : Nat := zSum (fun i => if i0 ≤ i then f i else 0) e
theorem zRs_0 {f : Nat → Nat} {i0 : Nat} : ∀ {e : Nat}, e ≤ i0 → zRs f i0 e = 0 := by
  intro e
  induction e with
  | zero => intro _; rfl
  | succ e ih =>
    intro h
    show zRs f i0 e + (if i0 ≤ e then f e else 0) = 0
    rw [ih (by omega), if_neg (by omega)]
theorem zRs_s {f : Nat → Nat} {i0 e : Nat} (h : i0 ≤ e) : zRs f i0 (e + 1) = zRs f i0 e + f e := by
  show zRs f i0 e + (if i0 ≤ e then f e else 0) = _
  rw [if_pos h]
theorem zRs_le {f : Nat → Nat} {i0 B : Nat} (hf : ∀ j, f j ≤ B) : ∀ e, zRs f i0 e ≤ e * B := by
  intro e
  refine zSum_le e (fun k _ => ?_)
  show (if i0 ≤ k then f k else 0) ≤ B
  split
  · exact hf k
  · exact Nat.zero_le _
theorem zRs_12 {f : Nat → Nat} {i0 e B : Nat} (hf : ∀ j, f j ≤ B) (he : e ≤ 12) : zRs f i0 e ≤ 12 * B := Nat.le_trans (zRs_le hf e) (Nat.mul_le_mul_right B he)
theorem zRs_congr {f g : Nat → Nat} {i0 : Nat} : ∀ e, (∀ j, i0 ≤ j → j < e → f j = g j) → zRs f i0 e = zRs g i0 e := by
  intro e h
  refine zSum_congr e (fun k hk => ?_)
  show (if i0 ≤ k then f k else 0) = (if i0 ≤ k then g k else 0)
  split
  · next p => exact h k p hk
  · rfl
theorem zRs_mono {f : Nat → Nat} {i0 : Nat} : ∀ {i e : Nat}, i ≤ e → zRs f i0 i ≤ zRs f i0 e := by
  intro i e
  induction e with
  | zero => intro h; rw [show i = 0 by omega]; exact Nat.le_refl _
  | succ e ih =>
    intro h
    by_cases p : i = e + 1
    · rw [p]; exact Nat.le_refl _
    · have := ih (by omega)
      show zRs f i0 i ≤ zRs f i0 e + (if i0 ≤ e then f e else 0)
      omega
theorem zRs_at {f : Nat → Nat} {i0 e j : Nat} (h : i0 ≤ j) (hj : j < e) : f j ≤ zRs f i0 e := by
  have h1 := zRs_mono (f := f) (i0 := i0) (show j + 1 ≤ e by omega)
  rw [zRs_s h] at h1
  omega
/-- a line's part -/
def zPa (w : Nat → Nat) (am i0 e0 : Nat) : Nat → Nat := fun i => if zRs w i0 e0 = 0 then am / (e0 - i0) else am * w i / zRs w i0 e0
theorem zPa_z {w : Nat → Nat} {am i0 e0 i : Nat} (h : zRs w i0 e0 = 0) : zPa w am i0 e0 i = am / (e0 - i0) := if_pos h
theorem zPa_w {w : Nat → Nat} {am i0 e0 i : Nat} (h : ¬ zRs w i0 e0 = 0) : zPa w am i0 e0 i = am * w i / zRs w i0 e0 := if_neg h
theorem zPa_sum {w : Nat → Nat} {am i0 e0 : Nat} (hlt : i0 < e0) : ∀ i, i ≤ e0 → zRs (zPa w am i0 e0) i0 i ≤ am := by
  by_cases z : zRs w i0 e0 = 0
  · have key : ∀ i, i ≤ e0 → zRs (zPa w am i0 e0) i0 i * (e0 - i0) ≤ am * (i - i0) := by
      intro i
      induction i with
      | zero => intro _; rw [zRs_0 (Nat.zero_le _), Nat.zero_mul]; exact Nat.zero_le _
      | succ i ih =>
        intro h
        by_cases p : i0 ≤ i
        · rw [zRs_s p, zPa_z z, Nat.add_mul, show i + 1 - i0 = (i - i0) + 1 by omega, Nat.mul_add, Nat.mul_one]
          have h1 := ih (by omega)
          have h2 := Nat.div_mul_le_self am (e0 - i0)
          omega
        · rw [zRs_0 (by omega), Nat.zero_mul]; exact Nat.zero_le _
    intro i hi
    have h1 := key i hi
    have h2 : am * (i - i0) ≤ am * (e0 - i0) := Nat.mul_le_mul_left am (by omega)
    exact Nat.le_of_mul_le_mul_right (Nat.le_trans h1 h2) (by omega)
  · have key : ∀ i, i ≤ e0 → zRs (zPa w am i0 e0) i0 i * zRs w i0 e0 ≤ am * zRs w i0 i := by
      intro i
      induction i with
      | zero => intro _; rw [zRs_0 (f := zPa w am i0 e0) (Nat.zero_le _), Nat.zero_mul]; exact Nat.zero_le _
      | succ i ih =>
        intro h
        by_cases p : i0 ≤ i
        · rw [zRs_s p, zRs_s p, zPa_w z, Nat.add_mul, Nat.mul_add]
          have h1 := ih (by omega)
          have h2 := Nat.div_mul_le_self (am * w i) (zRs w i0 e0)
          omega
        · rw [zRs_0 (f := zPa w am i0 e0) (by omega), Nat.zero_mul]; exact Nat.zero_le _
    intro i hi
    have h1 := key i hi
    have h2 : am * zRs w i0 i ≤ am * zRs w i0 e0 := Nat.mul_le_mul_left am (zRs_mono hi)
    exact Nat.le_of_mul_le_mul_right (Nat.le_trans h1 h2) (by omega)
/-- parts given to the lines before i -/
def zSh1 (f pt : Nat → Nat) (i0 i : Nat) : Nat → Nat := fun j => if i0 ≤ j ∧ j < i then f j + pt j else f j
theorem zSh1_0 {f pt : Nat → Nat} {i0 : Nat} : zSh1 f pt i0 i0 = f := by
  funext j
  exact if_neg (by omega)
theorem zSh1_at {f pt : Nat → Nat} {i0 i : Nat} : zSh1 f pt i0 i i = f i := if_neg (by omega)
theorem zSh1_s {f pt : Nat → Nat} {i0 i : Nat} (h : i0 ≤ i) : va_up (zSh1 f pt i0 i) i (f i + pt i) = zSh1 f pt i0 (i + 1) := by
  funext j
  by_cases e : j = i
  · subst e
    rw [va_up_self]
    exact (if_pos ⟨h, by omega⟩).symm
  · rw [va_up_ne _ _ e]
    unfold zSh1
    by_cases p : i0 ≤ j ∧ j < i
    · rw [if_pos p, if_pos ⟨p.1, by omega⟩]
    · rw [if_neg p, if_neg (by omega)]
/-- one more for each line before i -/
def zIn (g : Nat → Nat) (i0 i : Nat) : Nat → Nat := fun j => if i0 ≤ j ∧ j < i then g j + 1 else g j
theorem zIn_0 {g : Nat → Nat} {i0 : Nat} : zIn g i0 i0 = g := by
  funext j
  exact if_neg (by omega)
theorem zIn_at {g : Nat → Nat} {i0 i : Nat} : zIn g i0 i i = g i := if_neg (by omega)
theorem zIn_s {g : Nat → Nat} {i0 i : Nat} (h : i0 ≤ i) : va_up (zIn g i0 i) i (g i + 1) = zIn g i0 (i + 1) := by
  funext j
  by_cases e : j = i
  · subst e
    rw [va_up_self]
    exact (if_pos ⟨h, by omega⟩).symm
  · rw [va_up_ne _ _ e]
    unfold zIn
    by_cases p : i0 ≤ j ∧ j < i
    · rw [if_pos p, if_pos ⟨p.1, by omega⟩]
    · rw [if_neg p, if_neg (by omega)]
/-- what is left over, and up to where it goes -/
def zLo (w : Nat → Nat) (am i0 e0 : Nat) : Nat := am - zRs (zPa w am i0 e0) i0 e0
/-- an amount shared out -/
def zShr (f w : Nat → Nat) (am i0 e0 : Nat) : Nat → Nat := zIn (zSh1 f (zPa w am i0 e0) i0 e0) i0 (if i0 + zLo w am i0 e0 < e0 then i0 + zLo w am i0 e0 else e0)
theorem zShr_X {f w : Nat → Nat} {am i0 e0 : Nat} (h : ¬ i0 + zLo w am i0 e0 < e0) : zIn (zSh1 f (zPa w am i0 e0) i0 e0) i0 e0 = zShr f w am i0 e0 := by
  unfold zShr
  rw [if_neg h]
theorem zShr_S {f w : Nat → Nat} {am i0 e0 i : Nat} (h : i = i0 + zLo w am i0 e0) (hi : i < e0) : zIn (zSh1 f (zPa w am i0 e0) i0 e0) i0 i = zShr f w am i0 e0 := by
  unfold zShr
  rw [if_pos (by omega), h]
theorem zShr_le {f w : Nat → Nat} {am i0 e0 : Nat} (hlt : i0 < e0) (j : Nat) : zShr f w am i0 e0 j ≤ f j + (if i0 ≤ j ∧ j < e0 then am else 0) := by
  have hs := zPa_sum (w := w) (am := am) hlt e0 (Nat.le_refl _)
  unfold zShr zIn
  by_cases p : i0 ≤ j ∧ j < e0
  · have h1 := zRs_at (f := zPa w am i0 e0) p.1 p.2
    have e1 : zSh1 f (zPa w am i0 e0) i0 e0 j = f j + zPa w am i0 e0 j := if_pos p
    rw [if_pos p, e1]
    unfold zLo
    repeat' split
    all_goals omega
  · have e1 : zSh1 f (zPa w am i0 e0) i0 e0 j = f j := if_neg p
    rw [if_neg p, e1, if_neg]
    · exact Nat.le_refl _
    · intro q
      split at q
      all_goals omega
theorem zShr_out {f w : Nat → Nat} {am i0 e0 j : Nat} (h : ¬ (i0 ≤ j ∧ j < e0)) : zShr f w am i0 e0 j = f j := by
  have e1 : zSh1 f (zPa w am i0 e0) i0 e0 j = f j := if_neg h
  unfold zShr zIn
  rw [e1, if_neg]
  intro q
  split at q
  all_goals omega
theorem zShr_in {f w : Nat → Nat} {am i0 e0 j : Nat} (h : i0 ≤ j ∧ j < e0) : zShr f w am i0 e0 j = f j + zPa w am i0 e0 j + (if j - i0 < zLo w am i0 e0 then 1 else 0) := by
  have e1 : zSh1 f (zPa w am i0 e0) i0 e0 j = f j + zPa w am i0 e0 j := if_pos h
  unfold zShr zIn
  rw [e1]
  repeat' split
  all_goals omega
theorem zPa_congr {w w' : Nat → Nat} {am i0 e0 i : Nat} (h : ∀ j, i0 ≤ j → j < e0 → w j = w' j) (hi : i0 ≤ i ∧ i < e0) : zPa w am i0 e0 i = zPa w' am i0 e0 i := by
  unfold zPa
  rw [zRs_congr e0 h, h i hi.1 hi.2]
/-- it depends on the lines that it reaches alone -/
theorem zShr_congr {f f' w w' : Nat → Nat} {am i0 e0 j : Nat} (hf : f j = f' j) (h : ∀ j, i0 ≤ j → j < e0 → w j = w' j) : zShr f w am i0 e0 j = zShr f' w' am i0 e0 j := by
  by_cases p : i0 ≤ j ∧ j < e0
  · have hl : zLo w am i0 e0 = zLo w' am i0 e0 := by
      unfold zLo
      rw [zRs_congr e0 (fun k h1 h2 => zPa_congr h ⟨h1, h2⟩)]
    rw [zShr_in p, zShr_in p, hf, zPa_congr h p, hl]
  · rw [zShr_out p, zShr_out p, hf]
theorem zShr_0 {f w : Nat → Nat} {i0 e0 : Nat} : zShr f w 0 i0 e0 = f := by
  have hp : ∀ i, zPa w 0 i0 e0 i = 0 := by
    intro i
    unfold zPa
    split
    · exact Nat.zero_div _
    · rw [Nat.zero_mul]; exact Nat.zero_div _
  funext j
  by_cases p : i0 ≤ j ∧ j < e0
  · rw [zShr_in p, hp, if_neg (by unfold zLo; omega)]
    rfl
  · exact zShr_out p
/-- a length wanted of lines -/
def zRc (f : Nat → Nat) (gp i0 e0 : Nat) : Nat := zRs f i0 e0 + gp * (e0 - i0 - 1)
def zStr (f w : Nat → Nat) (wv gp i0 e0 : Nat) : Nat → Nat := if zRc f gp i0 e0 < wv then zShr f w (wv - zRc f gp i0 e0) i0 e0 else f
theorem zStr_T {f w : Nat → Nat} {wv gp i0 e0 : Nat} (h : zRc f gp i0 e0 < wv) : zStr f w wv gp i0 e0 = zShr f w (wv - zRc f gp i0 e0) i0 e0 := if_pos h
theorem zStr_F {f w : Nat → Nat} {wv gp i0 e0 : Nat} (h : ¬ zRc f gp i0 e0 < wv) : zStr f w wv gp i0 e0 = f := if_neg h
theorem zStr_le {f w : Nat → Nat} {wv gp i0 e0 B : Nat} (hlt : i0 < e0) (hf : ∀ j, f j ≤ B) (hw : wv ≤ B) : ∀ j, zStr f w wv gp i0 e0 j ≤ B := by
  intro j
  by_cases p : zRc f gp i0 e0 < wv
  · rw [zStr_T p]
    have h1 := zShr_le (f := f) (w := w) (am := wv - zRc f gp i0 e0) hlt j
    by_cases q : i0 ≤ j ∧ j < e0
    · rw [if_pos q] at h1
      have h2 := zRs_at (f := f) q.1 q.2
      have hr : zRs f i0 e0 ≤ zRc f gp i0 e0 := Nat.le_add_right _ _
      omega
    · rw [if_neg q] at h1
      have := hf j
      omega
  · rw [zStr_F p]; exact hf j
theorem zStr_congr {f f' w w' : Nat → Nat} {wv gp i0 e0 j : Nat} (hj : f j = f' j) (hf : ∀ j, i0 ≤ j → j < e0 → f j = f' j) (hw : ∀ j, i0 ≤ j → j < e0 → w j = w' j) : zStr f w wv gp i0 e0 j = zStr f' w' wv gp i0 e0 j := by
  have hr : zRc f gp i0 e0 = zRc f' gp i0 e0 := by unfold zRc; rw [zRs_congr e0 hf]
  by_cases p : zRc f gp i0 e0 < wv
  · rw [zStr_T p, zStr_T (by rw [← hr]; exact p), hr]
    exact zShr_congr hj hw
  · rw [zStr_F p, zStr_F (by rw [← hr]; exact p)]; exact hj
/-- one line becomes what is wanted, if it is less -/
theorem zRs_1 {f : Nat → Nat} {t : Nat} : zRs f t (t + 1) = f t := by
  rw [zRs_s (Nat.le_refl _), zRs_0 (Nat.le_refl _), Nat.zero_add]
theorem zShr_1 {f w : Nat → Nat} {am t : Nat} : zShr f w am t (t + 1) t = f t + am := by
  have hp : zPa w am t (t + 1) t = am := by
    by_cases z : zRs w t (t + 1) = 0
    · rw [zPa_z z, show t + 1 - t = 1 by omega, Nat.div_one]
    · rw [zPa_w z]
      rw [zRs_1] at z ⊢
      exact Nat.mul_div_cancel am (by omega)
  rw [zShr_in ⟨Nat.le_refl _, by omega⟩, hp, if_neg (by unfold zLo; rw [zRs_1, hp]; omega)]
  rfl
theorem zStr_1 {f w : Nat → Nat} {wv gp t : Nat} : zStr f w wv gp t (t + 1) = va_up f t (if f t < wv then wv else f t) := by
  have hr : zRc f gp t (t + 1) = f t := by
    unfold zRc
    rw [zRs_1, show t + 1 - t - 1 = 0 by omega, Nat.mul_zero, Nat.add_zero]
  funext j
  by_cases e : j = t
  · subst e
    rw [va_up_self]
    by_cases p : f j < wv
    · rw [zStr_T (by rw [hr]; exact p), zShr_1, hr, if_pos p]; omega
    · rw [zStr_F (by rw [hr]; exact p), if_neg p]
  · rw [va_up_ne _ _ e]
    by_cases p : f t < wv
    · rw [zStr_T (by rw [hr]; exact p)]; exact zShr_out (by omega)
    · rw [zStr_F (by rw [hr]; exact p)]
/-- nothing yet -/
def zO : Nat → Nat := fun _ => 0
theorem zO_le {B : Nat} : ∀ q, zO q ≤ B := fun _ => Nat.zero_le _
theorem z_fill {f : Nat → Int32} {i : Nat} (hi : i < 2147483648) (h : ∀ j, j < i → f j = nI (zO j)) : ∀ j, j < i + 1 → upd f (nI i).toNatClampNeg (nI 0) j = nI (zO j) := by
  intro j hj
  rw [nI_clamp (by omega)]
  by_cases e : j = i
  · subst e; rw [pk_us]; rfl
  · rw [pk_un e]; exact h j (by omega)
theorem z_copy {f : Nat → Int32} {w : Nat → Nat} {i : Nat} (hi : i < 2147483648) (h : ∀ j, j < i → f j = nI (w j)) : ∀ j, j < i + 1 → upd f (nI i).toNatClampNeg (nI (w i)) j = nI (w j) := by
  intro j hj
  rw [nI_clamp (by omega)]
  by_cases e : j = i
  · subst e; rw [pk_us]
  · rw [pk_un e]; exact h j (by omega)
theorem z_arrV {cI : ClassId} {N : Nat} {f g : Nat → Value} (h : ∀ j, j < N → f j = g j) : arrV cI N f = arrV cI N g := by
  have e : (Array.ofFn (n := N) fun j => f j.val) = Array.ofFn (n := N) fun j => g j.val := by
    congr 1
    funext j
    exact h j.val j.isLt
  unfold arrV
  rw [e]
/-- an array is what it holds at its places -/
theorem zP_arr {D : va_G} {cl : List vw_C} {ws : va_W} {H : Heap} {a n : Nat} {cA : ClassId} {f g : Nat → Int32} (i : Nat) (h : va_P D cl ws H) (hi : ws[i]? = some (a, .inl (cA, n, .inl f))) (e : ∀ j, j < n → f j = g j) : va_P D cl (ws.set i (a, .inl (cA, n, .inl g))) H := by
  intro k q hk
  have hl := (List.getElem?_eq_some_iff.mp hi).1
  by_cases c : k = i
  · subst c
    rw [List.getElem?_set_self hl] at hk
    obtain rfl := Option.some.inj hk
    have h1 : H[a]? = some (vp_cell cA (n, .inl f)) := h k _ hi
    have h2 : vp_cell cA (n, .inl f) = vp_cell cA (n, .inl g) := by
      show arrV cA n (fun j => .int (f j)) = arrV cA n (fun j => .int (g j))
      exact z_arrV (fun j hj => by rw [e j hj])
    show H[a]? = some (vp_cell cA (n, .inl g))
    rw [← h2]
    exact h1
  · rw [List.getElem?_set_ne (Ne.symm c)] at hk
    exact h k q hk
/-! ===== heights ===== -/
/-- the cells of r rows, the first k of them, stretch their lines -/
def zHs (need top dn : Nat → Nat) (gp : Nat) (h : Nat → Nat) (r : Nat) : Nat → Nat → Nat
  | 0 => h
  | k + 1 => if dn k = r then zStr (zHs need top dn gp h r k) (zHs need top dn gp h r k) (need k) gp (top k) (top k + dn k) else zHs need top dn gp h r k
theorem zHs_T {need top dn : Nat → Nat} {gp : Nat} {h : Nat → Nat} {r k : Nat} (e : dn k = r) : zHs need top dn gp h r (k + 1) = zStr (zHs need top dn gp h r k) (zHs need top dn gp h r k) (need k) gp (top k) (top k + dn k) := if_pos e
theorem zHs_F {need top dn : Nat → Nat} {gp : Nat} {h : Nat → Nat} {r k : Nat} (e : ¬ dn k = r) : zHs need top dn gp h r (k + 1) = zHs need top dn gp h r k := if_neg e
/-- cells of one row up to r rows -/
def zHr (need top dn : Nat → Nat) (gp : Nat) (h : Nat → Nat) (n : Nat) : Nat → Nat → Nat
  | 0 => h
  | r + 1 => zHs need top dn gp (zHr need top dn gp h n r) (r + 1) n
theorem zHs_congr {need top dn need' top' dn' : Nat → Nat} {gp r : Nat} {h h' : Nat → Nat} (hh : ∀ j, j < 12 → h j = h' j) : ∀ k, (∀ i, i < k → need i = need' i ∧ top i = top' i ∧ dn i = dn' i ∧ top i + dn i ≤ 12) → ∀ j, j < 12 → zHs need top dn gp h r k j = zHs need' top' dn' gp h' r k j := by
  intro k
  induction k with
  | zero => intro _ j hj; exact hh j hj
  | succ k ih =>
    intro hk j hj
    have i1 := ih (fun i hi => hk i (by omega))
    obtain ⟨a1, a2, a3, a4⟩ := hk k (by omega)
    by_cases e : dn k = r
    · rw [zHs_T e, zHs_T (by rw [← a3]; exact e), ← a1, ← a2, ← a3]
      exact zStr_congr (i1 j hj) (fun i h1 h2 => i1 i (by omega)) (fun i h1 h2 => i1 i (by omega))
    · rw [zHs_F e, zHs_F (by rw [← a3]; exact e)]; exact i1 j hj
theorem zHr_congr {need top dn need' top' dn' : Nat → Nat} {gp n : Nat} {h h' : Nat → Nat} (hh : ∀ j, j < 12 → h j = h' j) (hk : ∀ i, i < n → need i = need' i ∧ top i = top' i ∧ dn i = dn' i ∧ top i + dn i ≤ 12) : ∀ r j, j < 12 → zHr need top dn gp h n r j = zHr need' top' dn' gp h' n r j := by
  intro r
  induction r with
  | zero => exact hh
  | succ r ih => exact zHs_congr ih n hk
theorem zRc_le {f : Nat → Nat} {gp i0 e0 : Nat} (hf : ∀ j, f j ≤ 20000) (hgp : gp ≤ 1000) (he : e0 ≤ 12) : zRc f gp i0 e0 ≤ 300000 := by
  have h1 := zRs_12 (i0 := i0) hf he
  have h2 : gp * (e0 - i0 - 1) ≤ 1000 * 12 := Nat.mul_le_mul hgp (by omega)
  unfold zRc
  omega
theorem zStr_m {f w : Nat → Nat} {wv gp i0 e0 : Nat} : zShr f w (wv - zRc f gp i0 e0) i0 e0 = zStr f w wv gp i0 e0 := by
  by_cases p : zRc f gp i0 e0 < wv
  · rw [zStr_T p]
  · rw [zStr_F p, show wv - zRc f gp i0 e0 = 0 by omega, zShr_0]
theorem zHr_i {need top dn : Nat → Nat} {gp : Nat} {h : Nat → Nat} {n i : Nat} (hi : 1 ≤ i) : zHr need top dn gp h n i = zHs need top dn gp (zHr need top dn gp h n (i - 1)) i n := by
  obtain ⟨k, rfl⟩ : ∃ k, i = k + 1 := ⟨i - 1, by omega⟩
  rw [Nat.add_sub_cancel]
  rfl
theorem zHr_n0 {need top dn : Nat → Nat} {gp : Nat} {h : Nat → Nat} : ∀ r, zHr need top dn gp h 0 r = h := by
  intro r
  induction r with
  | zero => rfl
  | succ r ih => exact ih
theorem z_gr0 {a b : Nat} {r : Int32} (ha : a < 1073741824) (hb : b < 1073741824) (h : ((nI a - nI b).toInt ≤ 0 ∧ r = nI 0) ∨ (0 < (nI a - nI b).toInt ∧ r = nI a - nI b)) : r = nI (a - b) := by
  have e := pk_sub_toInt (a := a) (b := b) (by omega) (by omega)
  rcases h with ⟨h1, rfl⟩ | ⟨h1, rfl⟩
  · rw [show a - b = 0 by omega]
  · exact pk_sub (by omega)
theorem z_g0b {x : Int32} (h : (nI 0).toInt ≤ x.toInt) : (x.toInt ≤ 0 ∧ x = nI 0) ∨ (0 < x.toInt ∧ x = x) := by
  have e : (nI 0).toInt = 0 := by decide
  rw [e] at h
  by_cases p : 0 < x.toInt
  · exact Or.inr ⟨p, rfl⟩
  · exact Or.inl ⟨by omega, z_eq' (by rw [e]; omega)⟩
theorem z_upb {f : Nat → Nat} {t v B : Nat} (h : ∀ q, f q ≤ B) (hv : v ≤ B) : ∀ q, va_up f t v q ≤ B := by
  intro q
  by_cases e : q = t
  · subst e; rw [va_up_self]; exact hv
  · rw [va_up_ne _ _ e]; exact h q
theorem z_shb {f w : Nat → Nat} {wv gp i0 e0 a : Nat} (hlt : i0 < e0) (hf : ∀ q, f q ≤ 20000) (hwv : wv ≤ 1000) (ha : a = wv - zRc f gp i0 e0) : ∀ q, zShr f w a i0 e0 q ≤ 20000 := by
  intro q
  rw [ha, zStr_m]
  exact zStr_le hlt hf (by omega) q
section ZHL
variable {n : Nat} {d : Nat → Nat → Nat} {gr gs bg re ce : Nat} {mm : Nat → Nat → Nat} {rg rn ro : Nat}
theorem zI_71 (h : zI n d gr gs bg re ce mm rg rn ro) : ∀ k, k < n → 1 ≤ d 7 k := by
  intro k hk
  have e := zI_end h hk
  rw [(h.2.2.2.2.1 k hk).2.2.1]
  exact e.2.1
theorem zL_high (h : zI n d gr gs bg re ce mm rg rn ro) {gp : Nat} {y r q : Int32} (h1 : (¬ (0 ≤ y.toInt ∧ y.toInt < re) ∧ r = -1) ∨ (∃ y0, y0 < re ∧ y = nI y0 ∧ r = nI (zHr (d 5) (d 1) (d 7) gp zO n 12 y0))) (h2 : (¬ (0 ≤ y.toInt ∧ y.toInt < (zEn mm (gr - 1) n : Nat)) ∧ q = -1) ∨ (∃ y0, y0 < zEn mm (gr - 1) n ∧ y = nI y0 ∧ q = nI (zHr (mm 9) (mm 3) (zDn mm n) gp zO n 12 y0))) : r = q := by
  have e3 := h.2.1.2.2.1
  have l := h.2.2.1
  rw [← e3] at h2
  rcases h1 with ⟨a, rfl⟩ | ⟨y0, a, rfl, rfl⟩
  · rcases h2 with ⟨b, rfl⟩ | ⟨y0, b, rfl, rfl⟩
    · rfl
    · rw [nI_toInt (by omega)] at a
      exact absurd (by omega) a
  · rcases h2 with ⟨b, rfl⟩ | ⟨y1, b, e, rfl⟩
    · rw [nI_toInt (by omega)] at b
      exact absurd (by omega) b
    · have e := (nI_eq (by omega) (by omega)).mp e
      subst e
      congr 1
      refine zHr_congr (fun _ _ => rfl) (fun i hi => ?_) 12 y0 (by omega)
      have bb := zI_B h i hi
      obtain ⟨⟨q0, q1, q2, q3, q4, q5, -⟩, -, q7, -⟩ := h.2.2.2.2.1 i hi
      exact ⟨q5, q1, q7, bb⟩
end ZHL
theorem zL_layx {a b r q : Int32} {f1 f2 sp gp fx sp2 gp2 fx2 sq2 gq2 fq2 : Nat} (hf : f1 = f2) (h : (¬ ((0 ≤ a.toInt ∧ a.toInt ≤ 10000) ∧ (0 ≤ b.toInt ∧ b.toInt ≤ 20)) ∧ r = 0 ∧ sp2 = sp ∧ gp2 = gp ∧ fx2 = fx) ∨ (sp2 ≤ 10000 ∧ gp2 ≤ 20 ∧ a = nI sp2 ∧ b = nI gp2 ∧ fx2 = f1 ∧ r = 1))
    (h' : (¬ ((0 ≤ a.toInt ∧ a.toInt ≤ 10000) ∧ (0 ≤ b.toInt ∧ b.toInt ≤ 20)) ∧ q = 0 ∧ sq2 = sp ∧ gq2 = gp ∧ fq2 = fx) ∨ (sq2 ≤ 10000 ∧ gq2 ≤ 20 ∧ a = nI sq2 ∧ b = nI gq2 ∧ fq2 = f2 ∧ q = 1)) (h0 : sp ≤ 10000 ∧ gp ≤ 20) : r = q ∧ sp2 = sq2 ∧ gp2 = gq2 ∧ fx2 = fq2 ∧ sp2 ≤ 10000 ∧ gp2 ≤ 20 := by
  have key : ∀ {x y : Nat}, x ≤ 10000 → y ≤ 20 → a = nI x → b = nI y → ((0 ≤ a.toInt ∧ a.toInt ≤ 10000) ∧ (0 ≤ b.toInt ∧ b.toInt ≤ 20)) := by
    intro x y h1 h2 e1 e2
    rw [e1, e2, nI_toInt (by omega), nI_toInt (by omega)]
    omega
  rcases h with ⟨a1, rfl, rfl, rfl, rfl⟩ | ⟨b1, b2, b3, b4, b5, rfl⟩
  · rcases h' with ⟨a2, rfl, rfl, rfl, rfl⟩ | ⟨c1, c2, c3, c4, -, rfl⟩
    · exact ⟨rfl, rfl, rfl, rfl, h0⟩
    · exact absurd (key c1 c2 c3 c4) a1
  · rcases h' with ⟨a2, rfl, -⟩ | ⟨c1, c2, c3, c4, c5, rfl⟩
    · exact absurd (key b1 b2 b3 b4) a2
    · exact ⟨rfl, (nI_eq (by omega) (by omega)).mp (b3.symm.trans c3), (nI_eq (by omega) (by omega)).mp (b4.symm.trans c4), by rw [b5, c5, hf], b1, b2⟩
