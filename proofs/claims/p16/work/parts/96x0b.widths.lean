/-! ===== widths ===== -/
def zRz (f g : Nat → Nat) (i0 i : Nat) : Nat → Nat := fun j => if i0 ≤ j ∧ j < i then (if f j < g j then g j else f j) else f j
theorem zRz_0 {f g : Nat → Nat} {i0 : Nat} : zRz f g i0 i0 = f := by
  funext j
  exact if_neg (by omega)
theorem zRz_at {f g : Nat → Nat} {i0 i : Nat} : zRz f g i0 i i = f i := if_neg (by omega)
theorem zRz_s {f g : Nat → Nat} {i0 i : Nat} (h : i0 ≤ i) : va_up (zRz f g i0 i) i (if f i < g i then g i else f i) = zRz f g i0 (i + 1) := by
  funext j
  by_cases e : j = i
  · subst e
    rw [va_up_self]
    exact (if_pos ⟨h, by omega⟩).symm
  · rw [va_up_ne _ _ e]
    unfold zRz
    by_cases p : i0 ≤ j ∧ j < i
    · have q : i0 ≤ j ∧ j < i + 1 := ⟨p.1, by omega⟩
      rw [if_pos p, if_pos q]
    · have q : ¬ (i0 ≤ j ∧ j < i + 1) := by omega
      rw [if_neg p, if_neg q]
theorem zRz_le {f g : Nat → Nat} {i0 e0 B : Nat} (hf : ∀ j, f j ≤ B) (hg : ∀ j, g j ≤ B) : ∀ j, zRz f g i0 e0 j ≤ B := by
  intro j
  have h1 := hf j
  have h2 := hg j
  unfold zRz
  repeat' split
  all_goals omega
theorem zStr_out {f w : Nat → Nat} {wv gp i0 e0 j : Nat} (h : ¬ (i0 ≤ j ∧ j < e0)) : zStr f w wv gp i0 e0 j = f j := by
  by_cases p : zRc f gp i0 e0 < wv
  · rw [zStr_T p]; exact zShr_out h
  · rw [zStr_F p]
/-- a cell's least and most are fitted -/
def zFit (lo hi gp l c : Nat) (P : (Nat → Nat) × (Nat → Nat)) : (Nat → Nat) × (Nat → Nat) :=
  (zStr P.1 P.2 lo gp l (l + c), zRz (zStr P.2 P.2 hi gp l (l + c)) (zStr P.1 P.2 lo gp l (l + c)) l (l + c))
theorem zFit_le {lo hi gp l c B : Nat} {P : (Nat → Nat) × (Nat → Nat)} (hc : 1 ≤ c) (h1 : ∀ j, P.1 j ≤ B) (h2 : ∀ j, P.2 j ≤ B) (hl : lo ≤ B) (hh : hi ≤ B) : (∀ j, (zFit lo hi gp l c P).1 j ≤ B) ∧ ∀ j, (zFit lo hi gp l c P).2 j ≤ B :=
  ⟨zStr_le (by omega) h1 hl, zRz_le (zStr_le (by omega) h2 hh) (zStr_le (by omega) h1 hl)⟩
theorem zFit_LM {lo hi gp l c : Nat} {P : (Nat → Nat) × (Nat → Nat)} (h : ∀ j, P.1 j ≤ P.2 j) : ∀ j, (zFit lo hi gp l c P).1 j ≤ (zFit lo hi gp l c P).2 j := by
  intro j
  show zStr P.1 P.2 lo gp l (l + c) j ≤ zRz (zStr P.2 P.2 hi gp l (l + c)) (zStr P.1 P.2 lo gp l (l + c)) l (l + c) j
  unfold zRz
  by_cases p : l ≤ j ∧ j < l + c
  · rw [if_pos p]
    split <;> omega
  · rw [if_neg p, zStr_out p, zStr_out p]; exact h j
theorem zFit_1 {lo hi gp t : Nat} {L M : Nat → Nat} (h : L t ≤ M t) (hl : lo ≤ hi) : (va_up L t (if L t < lo then lo else L t), va_up M t (if M t < hi then hi else M t)) = zFit lo hi gp t 1 (L, M) := by
  unfold zFit
  dsimp only
  rw [zStr_1, zStr_1]
  congr 1
  funext j
  unfold zRz
  by_cases p : t ≤ j ∧ j < t + 1
  · have e : j = t := by omega
    subst e
    rw [if_pos p, va_up_self, va_up_self]
    repeat' split
    all_goals omega
  · rw [if_neg p]
def zWs (lo hi lf ac : Nat → Nat) (gp : Nat) (P : (Nat → Nat) × (Nat → Nat)) (r : Nat) : Nat → (Nat → Nat) × (Nat → Nat)
  | 0 => P
  | k + 1 => if ac k = r then zFit (lo k) (hi k) gp (lf k) (ac k) (zWs lo hi lf ac gp P r k) else zWs lo hi lf ac gp P r k
theorem zWs_T {lo hi lf ac : Nat → Nat} {gp : Nat} {P : (Nat → Nat) × (Nat → Nat)} {r k : Nat} (e : ac k = r) : zWs lo hi lf ac gp P r (k + 1) = zFit (lo k) (hi k) gp (lf k) (ac k) (zWs lo hi lf ac gp P r k) := if_pos e
theorem zWs_F {lo hi lf ac : Nat → Nat} {gp : Nat} {P : (Nat → Nat) × (Nat → Nat)} {r k : Nat} (e : ¬ ac k = r) : zWs lo hi lf ac gp P r (k + 1) = zWs lo hi lf ac gp P r k := if_neg e
def zWr (lo hi lf ac : Nat → Nat) (gp : Nat) (P : (Nat → Nat) × (Nat → Nat)) (n : Nat) : Nat → (Nat → Nat) × (Nat → Nat)
  | 0 => P
  | r + 1 => zWs lo hi lf ac gp (zWr lo hi lf ac gp P n r) (r + 1) n
theorem zWr_i {lo hi lf ac : Nat → Nat} {gp : Nat} {P : (Nat → Nat) × (Nat → Nat)} {n i : Nat} (h : 1 ≤ i) : zWr lo hi lf ac gp P n i = zWs lo hi lf ac gp (zWr lo hi lf ac gp P n (i - 1)) i n := by
  obtain ⟨k, rfl⟩ : ∃ k, i = k + 1 := ⟨i - 1, by omega⟩
  rw [Nat.add_sub_cancel]
  rfl
theorem zWs_eq {lo hi lf ac lo' hi' lf' ac' : Nat → Nat} {gp r : Nat} {P : (Nat → Nat) × (Nat → Nat)} : ∀ k, (∀ i, i < k → lo i = lo' i ∧ hi i = hi' i ∧ lf i = lf' i ∧ ac i = ac' i) → zWs lo hi lf ac gp P r k = zWs lo' hi' lf' ac' gp P r k := by
  intro k
  induction k with
  | zero => intro _; rfl
  | succ k ih =>
    intro h
    have i1 := ih (fun i hi => h i (by omega))
    obtain ⟨a1, a2, a3, a4⟩ := h k (by omega)
    by_cases e : ac k = r
    · rw [zWs_T e, zWs_T (by rw [← a4]; exact e), i1, a1, a2, a3, a4]
    · rw [zWs_F e, zWs_F (by rw [← a4]; exact e), i1]
theorem zWr_eq {lo hi lf ac lo' hi' lf' ac' : Nat → Nat} {gp n : Nat} {P : (Nat → Nat) × (Nat → Nat)} (h : ∀ i, i < n → lo i = lo' i ∧ hi i = hi' i ∧ lf i = lf' i ∧ ac i = ac' i) : ∀ r, zWr lo hi lf ac gp P n r = zWr lo' hi' lf' ac' gp P n r := by
  intro r
  induction r with
  | zero => rfl
  | succ r ih =>
    show zWs lo hi lf ac gp (zWr lo hi lf ac gp P n r) (r + 1) n = zWs lo' hi' lf' ac' gp (zWr lo' hi' lf' ac' gp P n r) (r + 1) n
    rw [ih, zWs_eq n h]
/-- the widths chosen by measures -/
def zCh (L M : Nat → Nat) (cs rm : Nat) : Nat → Nat :=
  if rm ≤ zRs L 0 cs then L else if rm ≤ zRs M 0 cs then zShr L (fun j => M j - L j) (rm - zRs L 0 cs) 0 cs else zShr M M (rm - zRs M 0 cs) 0 cs
theorem z_fitb {lo hi gp l c : Nat} {L M L2 M2 : Nat → Nat} (hc : 1 ≤ c) (e : (L2, M2) = zFit lo hi gp l c (L, M)) (h1 : ∀ q, L q ≤ 20000) (h2 : ∀ q, M q ≤ 20000) (hl : lo ≤ 20000) (hh : hi ≤ 20000) : (∀ q, L2 q ≤ 20000) ∧ ∀ q, M2 q ≤ 20000 := by
  have h := zFit_le (gp := gp) (l := l) (P := (L, M)) hc h1 h2 hl hh
  rw [← e] at h
  exact h
theorem z_fitc {lo hi gp l c : Nat} {L M L2 M2 : Nat → Nat} (hc : 1 ≤ c) (e : (L2, M2) = zFit lo hi gp l c (L, M)) (h : (∀ q, L q ≤ 20000) ∧ (∀ q, M q ≤ 20000) ∧ ∀ q, L q ≤ M q) (hl : lo ≤ 20000) (hh : hi ≤ 20000) : (∀ q, L2 q ≤ 20000) ∧ (∀ q, M2 q ≤ 20000) ∧ ∀ q, L2 q ≤ M2 q := by
  have h1 := z_fitb hc e h.1 h.2.1 hl hh
  have h2 := zFit_LM (lo := lo) (hi := hi) (gp := gp) (l := l) (c := c) (P := (L, M)) h.2.2
  rw [← e] at h2
  exact ⟨h1.1, h1.2, h2⟩
theorem z_fitof {lo hi gp l c : Nat} {L M L2 M2 : Nat → Nat} (h1 : L2 = zStr L M lo gp l (l + c)) (h2 : M2 = zStr M M hi gp l (l + c)) : (L2, zRz M2 L2 l (l + c)) = zFit lo hi gp l c (L, M) := by
  rw [h1, h2]
  rfl
theorem z_shl {f w : Nat → Nat} {am i0 e0 : Nat} (hlt : i0 < e0) (hf : ∀ q, f q ≤ 20000) (ha : am ≤ 20000) (q : Nat) : zShr f w am i0 e0 q ≤ 40000 := by
  have h1 := zShr_le (f := f) (w := w) (am := am) hlt q
  have h2 := hf q
  split at h1 <;> omega
def zMl (M L : Nat → Nat) : Nat → Nat := fun j => M j - L j
theorem zMl_le {M L : Nat → Nat} {B : Nat} (h : ∀ q, M q ≤ B) : ∀ q, zMl M L q ≤ B := fun q => by
  have := h q
  unfold zMl
  omega
theorem zCh_1 {L M : Nat → Nat} {cs rm : Nat} (h : rm ≤ zRs L 0 cs) : zCh L M cs rm = L := if_pos h
theorem zCh_2 {L M : Nat → Nat} {cs rm : Nat} (h : ¬ rm ≤ zRs L 0 cs) (h2 : rm ≤ zRs M 0 cs) : zCh L M cs rm = zShr L (zMl M L) (rm - zRs L 0 cs) 0 cs := by
  unfold zCh
  rw [if_neg h, if_pos h2]
  rfl
theorem zCh_3 {L M : Nat → Nat} {cs rm : Nat} (h : ¬ rm ≤ zRs L 0 cs) (h2 : ¬ rm ≤ zRs M 0 cs) : zCh L M cs rm = zShr M M (rm - zRs M 0 cs) 0 cs := by
  unfold zCh
  rw [if_neg h, if_neg h2]
theorem z_cpy12 {fb : Nat → Nat} {f : Nat → Int32} {j : Nat} (hj : j < 12) : va_cpy (fun j => nI (fb j)) f (nI 0).toNatClampNeg (nI 0).toNatClampNeg (nI 12).toNatClampNeg j = nI (fb j) := by
  rw [nI_clamp (n := 0) (by omega), nI_clamp (n := 12) (by omega), pk_cpy_in (Nat.zero_le _) (by omega)]
  show nI (fb (0 + (j - 0))) = nI (fb j)
  rw [Nat.zero_add, Nat.sub_zero]
theorem z_updq {f : Nat → Int32} {i : Nat} {x : Int32} (hi : i < 2147483648) : ∀ q, upd f (nI i).toNatClampNeg x q = if q = i then x else f q := by
  intro q
  rw [nI_clamp (by omega)]
  by_cases e : q = i
  · subst e; rw [pk_us, if_pos rfl]
  · rw [pk_un e, if_neg e]
theorem z_setq {f f2 : Nat → Int32} {w : Nat → Nat} {i : Nat} (h : ∀ q, q < i → f q = nI (w q)) (e : ∀ q, f2 q = if q = i then nI (w i) else f q) : ∀ q, q < i + 1 → f2 q = nI (w q) := by
  intro q hq
  rw [e q]
  by_cases p : q = i
  · rw [if_pos p, p]
  · rw [if_neg p]; exact h q (by omega)
/-! ===== the fixed way ===== -/
def zOwn (lo ac : Nat → Nat) (gp k : Nat) : Nat := lo k - gp * (ac k - 1)
def zGv (top lf ac : Nat → Nat) : Nat → Nat
  | 0 => 0
  | k + 1 => if top k = 0 then lf k + ac k else zGv top lf ac k
theorem zGv_T {top lf ac : Nat → Nat} {k : Nat} (h : top k = 0) : zGv top lf ac (k + 1) = lf k + ac k := if_pos h
theorem zGv_F {top lf ac : Nat → Nat} {k : Nat} (h : ¬ top k = 0) : zGv top lf ac (k + 1) = zGv top lf ac k := if_neg h
/-- the cells of row 0 stand side by side -/
def zTile (top lf ac : Nat → Nat) (n : Nat) : Prop := ∀ k, k < n → top k = 0 → lf k = zGv top lf ac k
def zFx (lo top lf ac : Nat → Nat) (gp : Nat) : Nat → Nat → Nat
  | 0 => zO
  | k + 1 => if top k = 0 then zShr (zFx lo top lf ac gp k) zO (zOwn lo ac gp k) (lf k) (lf k + ac k) else zFx lo top lf ac gp k
theorem zFx_T {lo top lf ac : Nat → Nat} {gp k : Nat} (h : top k = 0) : zFx lo top lf ac gp (k + 1) = zShr (zFx lo top lf ac gp k) zO (zOwn lo ac gp k) (lf k) (lf k + ac k) := if_pos h
theorem zFx_F {lo top lf ac : Nat → Nat} {gp k : Nat} (h : ¬ top k = 0) : zFx lo top lf ac gp (k + 1) = zFx lo top lf ac gp k := if_neg h
def zFw (lo top lf ac : Nat → Nat) (gp n cs rm : Nat) : Nat → Nat := zShr (zFx lo top lf ac gp n) zO (rm - zRs (zFx lo top lf ac gp n) 0 (zGv top lf ac n)) (zGv top lf ac n) cs
theorem zRs_c {c i0 : Nat} : ∀ e, i0 ≤ e → zRs (fun _ => c) i0 e = (e - i0) * c := by
  intro e
  induction e with
  | zero => intro h; rw [zRs_0 (by omega), show 0 - i0 = 0 by omega, Nat.zero_mul]
  | succ e ih =>
    intro h
    by_cases p : i0 ≤ e
    · rw [zRs_s p, ih p, show e + 1 - i0 = (e - i0) + 1 by omega, Nat.add_mul, Nat.one_mul]
    · rw [zRs_0 (by omega), show e + 1 - i0 = 0 by omega, Nat.zero_mul]
theorem zRs_zO {i0 e : Nat} : zRs zO i0 e = 0 := by
  by_cases h : i0 ≤ e
  · have := zRs_c (c := 0) e h
    rw [Nat.mul_zero] at this
    exact this
  · exact zRs_0 (by omega)
/-- shared alike over lines -/
theorem zShr_O {f : Nat → Nat} {am l c : Nat} (hc : 1 ≤ c) {j : Nat} (h : l ≤ j ∧ j < l + c) : zShr f zO am l (l + c) j = f j + am / c + (if j - l < am % c then 1 else 0) := by
  have hp : zPa zO am l (l + c) = fun _ => am / c := by
    funext i
    rw [zPa_z zRs_zO, Nat.add_sub_cancel_left]
  have hl : zLo zO am l (l + c) = am % c := by
    unfold zLo
    rw [hp, zRs_c (l + c) (by omega), Nat.add_sub_cancel_left]
    have := Nat.div_add_mod am c
    omega
  rw [zShr_in h, hl, hp]
/-- lines that get their part one by one -/
def zT1 (f : Nat → Nat) (am c l i : Nat) : Nat → Nat := fun j => if l ≤ j ∧ j < l + i then am / c + (if j - l < am % c then 1 else 0) else f j
theorem zT1_0 {f : Nat → Nat} {am c l : Nat} : zT1 f am c l 0 = f := by
  funext j
  exact if_neg (by omega)
theorem zT1_at {f : Nat → Nat} {am c l i : Nat} : zT1 f am c l i (l + i) = f (l + i) := if_neg (by omega)
theorem zT1_s {f : Nat → Nat} {am c l i : Nat} : va_up (zT1 f am c l i) (l + i) (am / c + (if i < am % c then 1 else 0)) = zT1 f am c l (i + 1) := by
  funext j
  by_cases e : j = l + i
  · subst e
    rw [va_up_self]
    have q : l ≤ l + i ∧ l + i < l + (i + 1) := by omega
    unfold zT1
    rw [if_pos q, Nat.add_sub_cancel_left]
  · rw [va_up_ne _ _ e]
    unfold zT1
    by_cases p : l ≤ j ∧ j < l + i
    · have q : l ≤ j ∧ j < l + (i + 1) := by omega
      rw [if_pos p, if_pos q]
    · have q : ¬ (l ≤ j ∧ j < l + (i + 1)) := by omega
      rw [if_neg p, if_neg q]
theorem zT1_shr {f : Nat → Nat} {am c l : Nat} (hc : 1 ≤ c) (h0 : ∀ j, l ≤ j → j < l + c → f j = 0) : zT1 f am c l c = zShr f zO am l (l + c) := by
  funext j
  by_cases p : l ≤ j ∧ j < l + c
  · rw [zShr_O hc p, h0 j p.1 p.2, Nat.zero_add]
    exact if_pos p
  · rw [zShr_out p]
    exact if_neg p
theorem zT1_le {f : Nat → Nat} {am c l i : Nat} (hf : ∀ j, f j ≤ 20000) (ha : am ≤ 10000) : ∀ j, zT1 f am c l i j ≤ 20000 := by
  intro j
  have h1 := hf j
  have h2 := Nat.div_le_self am c
  unfold zT1
  repeat' split
  all_goals omega
theorem zGv_mono {top lf ac : Nat → Nat} {n : Nat} (h : zTile top lf ac n) : ∀ {i k : Nat}, i ≤ k → k ≤ n → zGv top lf ac i ≤ zGv top lf ac k := by
  intro i k
  induction k with
  | zero => intro h1 _; rw [show i = 0 by omega]; exact Nat.le_refl _
  | succ k ih =>
    intro h1 h2
    by_cases e : i = k + 1
    · rw [e]; exact Nat.le_refl _
    · have q := ih (by omega) (by omega)
      by_cases t : top k = 0
      · rw [zGv_T t, h k (by omega) t]; omega
      · rw [zGv_F t]; exact q
/-- beyond what is given nothing has a width yet; no width passes a cell's own -/
theorem zFx_0 {lo top lf ac : Nat → Nat} {gp n : Nat} (h : zTile top lf ac n) (hl : ∀ k, k < n → lo k ≤ 1000 ∧ 1 ≤ ac k) : ∀ k, k ≤ n → (∀ j, zGv top lf ac k ≤ j → zFx lo top lf ac gp k j = 0) ∧ ∀ j, zFx lo top lf ac gp k j ≤ 1000 := by
  intro k
  induction k with
  | zero => intro _; exact ⟨fun _ _ => rfl, fun _ => Nat.zero_le _⟩
  | succ k ih =>
    intro hk
    obtain ⟨i1, i2⟩ := ih (by omega)
    obtain ⟨l1, l2⟩ := hl k (by omega)
    by_cases t : top k = 0
    · rw [zFx_T t, zGv_T t]
      have e := h k (by omega) t
      refine ⟨fun j hj => ?_, fun j => ?_⟩
      · rw [zShr_out (by omega)]; exact i1 j (by omega)
      · have b := zShr_le (f := zFx lo top lf ac gp k) (w := zO) (am := zOwn lo ac gp k) (i0 := lf k) (e0 := lf k + ac k) (by omega) j
        have o : zOwn lo ac gp k ≤ 1000 := by unfold zOwn; omega
        by_cases p : lf k ≤ j ∧ j < lf k + ac k
        · rw [if_pos p, i1 j (by omega)] at b; omega
        · rw [if_neg p] at b
          have := i2 j
          omega
    · rw [zFx_F t, zGv_F t]; exact ⟨i1, i2⟩
theorem zRs_cut {f : Nat → Nat} {g e : Nat} (hg : g ≤ e) (h : ∀ j, g ≤ j → f j = 0) : zRs f 0 e = zRs f 0 g := by
  refine zSum_cut e hg (fun x h1 _ => ?_)
  show (if 0 ≤ x then f x else 0) = 0
  rw [if_pos (Nat.zero_le _)]; exact h x h1
theorem z_max0 {a b : Nat} (ha : a < 1073741824) (hb : b < 1073741824) : (if nI 0 < nI a - nI b then nI a - nI b else nI 0) = nI (a - b) := by
  have e := pk_sub_toInt (a := a) (b := b) (by omega) (by omega)
  have e0 : (nI 0).toInt = 0 := by decide
  by_cases p : b < a
  · rw [if_pos (z_lt' (by rw [e, e0]; omega))]
    exact pk_sub (by omega)
  · rw [if_neg (fun q => by have := z_lt q; rw [e, e0] at this; omega), show a - b = 0 by omega]
theorem zGv_le {top lf ac : Nat → Nat} {c : Nat} : ∀ n, (∀ k, k < n → lf k + ac k ≤ c) → zGv top lf ac n ≤ c := by
  intro n
  induction n with
  | zero => intro _; exact Nat.zero_le _
  | succ n ih =>
    intro h
    by_cases t : top n = 0
    · rw [zGv_T t]; exact h n (by omega)
    · rw [zGv_F t]; exact ih (fun k hk => h k (by omega))
theorem zFw_e {lo top lf ac : Nat → Nat} {gp n cs rm : Nat} (h : cs ≤ zGv top lf ac n) : zFw lo top lf ac gp n cs rm = zFx lo top lf ac gp n := by
  funext j
  exact zShr_out (by omega)
theorem zT1_s' {f : Nat → Nat} {am c l i : Nat} (h : l ≤ i) : va_up (zT1 f am c l (i - l)) i (am / c + (if i - l < am % c then 1 else 0)) = zT1 f am c l (i + 1 - l) := by
  have e := zT1_s (f := f) (am := am) (c := c) (l := l) (i := i - l)
  rw [show l + (i - l) = i by omega, show i - l + 1 = i + 1 - l by omega] at e
  exact e
theorem zT1_at' {f : Nat → Nat} {am c l i : Nat} (h : l ≤ i) : zT1 f am c l (i - l) i = f i := if_neg (by omega)
/-- a place has got its width -/
def zBi (g q : Nat) : Int32 := if q < g then 1 else 0
theorem z_fillb {f w : Nat → Int32} {i : Nat} (hi : i < 2147483648) (e : w = upd f (nI i).toNatClampNeg (vp_nar .boolean (nI 0))) (h : ∀ q, q < i → f q = zBi 0 q) : ∀ q, q < i + 1 → w q = zBi 0 q := by
  intro q hq
  rw [e, nI_clamp (by omega)]
  by_cases p : q = i
  · subst p; rw [pk_us]; rfl
  · rw [pk_un p]; exact h q (by omega)
theorem z_setb {f w : Nat → Int32} {i : Nat} (hi : i < 2147483648) (e : w = upd f (nI i).toNatClampNeg (vp_nar .boolean (nI 1))) (h : ∀ q, q < 12 → f q = zBi i q) : ∀ q, q < 12 → w q = zBi (i + 1) q := by
  intro q hq
  rw [e, nI_clamp (by omega)]
  by_cases p : q = i
  · subst p; rw [pk_us]; exact (if_pos (by omega)).symm
  · rw [pk_un p, h q hq]
    unfold zBi
    by_cases s : q < i
    · rw [if_pos s, if_pos (by omega)]
    · rw [if_neg s, if_neg (by omega)]
theorem zBi_1 {g q : Nat} (h : q < g) : zBi g q = nI 1 := if_pos h
theorem zBi_0 {g q : Nat} (h : ¬ q < g) : zBi g q = nI 0 := if_neg h
theorem zFw_of {lo top lf ac : Nat → Nat} {gp n cs rm : Nat} {Wd : Nat → Nat} (hW : Wd = zFx lo top lf ac gp n) (hg : zGv top lf ac n ≤ cs) (h0 : ∀ j, zGv top lf ac n ≤ j → Wd j = 0) : zT1 Wd (rm - zRs Wd 0 cs) (cs - zGv top lf ac n) (zGv top lf ac n) (cs - zGv top lf ac n) = zFw lo top lf ac gp n cs rm := by
  rw [zRs_cut hg h0]
  by_cases p : zGv top lf ac n < cs
  · rw [zT1_shr (by omega) (fun j h1 _ => h0 j h1), show zGv top lf ac n + (cs - zGv top lf ac n) = cs by omega]
    unfold zFw
    rw [← hW]
  · rw [zFw_e (by omega), show cs - zGv top lf ac n = 0 by omega, zT1_0]
    exact hW
/-! ===== what is chosen ===== -/
def zCw (fx gp n cs rm : Nat) (lo top lf ac : Nat → Nat) (L M : Nat → Nat) : Nat → Nat := if fx = 0 then zCh L M cs rm else zFw lo top lf ac gp n cs rm
def zWi (P : (Nat → Nat) × (Nat → Nat)) (C : Nat → Nat) (w : Int32) (x : Nat) : Nat := if w = 0 then P.1 x else if w = nI 1 then P.2 x else C x
theorem zWi_0 {P : (Nat → Nat) × (Nat → Nat)} {C : Nat → Nat} {w : Int32} {x : Nat} (h : w = 0) : zWi P C w x = P.1 x := if_pos h
theorem zWi_1 {P : (Nat → Nat) × (Nat → Nat)} {C : Nat → Nat} {w : Int32} {x : Nat} (h : ¬ w = 0) (h1 : w = nI 1) : zWi P C w x = P.2 x := by
  unfold zWi
  rw [if_neg h, if_pos h1]
theorem zWi_2 {P : (Nat → Nat) × (Nat → Nat)} {C : Nat → Nat} {w : Int32} {x : Nat} (h : ¬ w = 0) (h1 : ¬ w = nI 1) : zWi P C w x = C x := by
  unfold zWi
  rw [if_neg h, if_neg h1]
theorem zRs_lm {L M : Nat → Nat} {e : Nat} (h : ∀ q, L q ≤ M q) : zRs L 0 e ≤ zRs M 0 e := by
  induction e with
  | zero => exact Nat.le_refl _
  | succ e ih =>
    rw [zRs_s (Nat.zero_le _), zRs_s (Nat.zero_le _)]
    have := h e
    omega
theorem zWs_ok {lo hi lf ac : Nat → Nat} {gp r : Nat} {P : (Nat → Nat) × (Nat → Nat)} (hP : (∀ q, P.1 q ≤ 20000) ∧ (∀ q, P.2 q ≤ 20000) ∧ ∀ q, P.1 q ≤ P.2 q) : ∀ k, (∀ i, i < k → lo i ≤ 20000 ∧ hi i ≤ 20000 ∧ 1 ≤ ac i) → (∀ q, (zWs lo hi lf ac gp P r k).1 q ≤ 20000) ∧ (∀ q, (zWs lo hi lf ac gp P r k).2 q ≤ 20000) ∧ ∀ q, (zWs lo hi lf ac gp P r k).1 q ≤ (zWs lo hi lf ac gp P r k).2 q := by
  intro k
  induction k with
  | zero => intro _; exact hP
  | succ k ih =>
    intro h
    have i1 := ih (fun i hi => h i (by omega))
    obtain ⟨a1, a2, a3⟩ := h k (by omega)
    by_cases e : ac k = r
    · rw [zWs_T e]
      have b := zFit_le (lo := lo k) (hi := hi k) (gp := gp) (l := lf k) (P := zWs lo hi lf ac gp P r k) a3 i1.1 i1.2.1 a1 a2
      exact ⟨b.1, b.2, zFit_LM i1.2.2⟩
    · rw [zWs_F e]; exact i1
theorem zWr_ok {lo hi lf ac : Nat → Nat} {gp n : Nat} (h : ∀ i, i < n → lo i ≤ 20000 ∧ hi i ≤ 20000 ∧ 1 ≤ ac i) : ∀ r, (∀ q, (zWr lo hi lf ac gp (zO, zO) n r).1 q ≤ 20000) ∧ (∀ q, (zWr lo hi lf ac gp (zO, zO) n r).2 q ≤ 20000) ∧ ∀ q, (zWr lo hi lf ac gp (zO, zO) n r).1 q ≤ (zWr lo hi lf ac gp (zO, zO) n r).2 q := by
  intro r
  induction r with
  | zero => exact ⟨zO_le, zO_le, fun _ => Nat.le_refl _⟩
  | succ r ih => exact zWs_ok ih n h
theorem zGv_eq {top lf ac top' lf' ac' : Nat → Nat} : ∀ k, (∀ i, i < k → top i = top' i ∧ lf i = lf' i ∧ ac i = ac' i) → zGv top lf ac k = zGv top' lf' ac' k := by
  intro k
  induction k with
  | zero => intro _; rfl
  | succ k ih =>
    intro h
    obtain ⟨a1, a2, a3⟩ := h k (by omega)
    have i1 := ih (fun i hi => h i (by omega))
    by_cases t : top k = 0
    · rw [zGv_T t, zGv_T (by rw [← a1]; exact t), a2, a3]
    · rw [zGv_F t, zGv_F (by rw [← a1]; exact t), i1]
theorem zFx_eq {lo top lf ac lo' top' lf' ac' : Nat → Nat} {gp : Nat} : ∀ k, (∀ i, i < k → lo i = lo' i ∧ top i = top' i ∧ lf i = lf' i ∧ ac i = ac' i) → zFx lo top lf ac gp k = zFx lo' top' lf' ac' gp k := by
  intro k
  induction k with
  | zero => intro _; rfl
  | succ k ih =>
    intro h
    obtain ⟨a0, a1, a2, a3⟩ := h k (by omega)
    have i1 := ih (fun i hi => h i (by omega))
    by_cases t : top k = 0
    · rw [zFx_T t, zFx_T (by rw [← a1]; exact t), i1, a2, a3]
      unfold zOwn
      rw [a0, a3]
    · rw [zFx_F t, zFx_F (by rw [← a1]; exact t), i1]
theorem zFw_eq {lo top lf ac lo' top' lf' ac' : Nat → Nat} {gp n cs rm : Nat} (h : ∀ i, i < n → lo i = lo' i ∧ top i = top' i ∧ lf i = lf' i ∧ ac i = ac' i) : zFw lo top lf ac gp n cs rm = zFw lo' top' lf' ac' gp n cs rm := by
  unfold zFw
  rw [zFx_eq n h, zGv_eq n (fun i hi => (h i hi).2)]
/-- what the tie wants besides, where widths are compared -/
def zJ (n : Nat) (d : Nat → Nat → Nat) : Prop := (∀ k, k < n → d 3 k ≤ d 4 k) ∧ zTile (d 1) (d 0) (d 2) n
theorem zJ_0 {d : Nat → Nat → Nat} : zJ 0 d := ⟨fun k hk => absurd hk (Nat.not_lt_zero _), fun k hk => absurd hk (Nat.not_lt_zero _)⟩
theorem zJ_same {n : Nat} {d d' : Nat → Nat → Nat} (h : zJ n d) (e : ∀ j k, j < 5 → k < n → d' j k = d j k) : zJ n d' := by
  refine ⟨fun k hk => ?_, fun k hk t => ?_⟩
  · rw [e 3 k (by omega) hk, e 4 k (by omega) hk]; exact h.1 k hk
  · rw [e 1 k (by omega) hk] at t
    rw [e 0 k (by omega) hk, h.2 k hk t]
    exact (zGv_eq k (fun i hi => ⟨e 1 i (by omega) (by omega), e 0 i (by omega) (by omega), e 2 i (by omega) (by omega)⟩)).symm
section ZJJ
variable {n : Nat} {d : Nat → Nat → Nat} {gr gs bg re ce : Nat} {mm : Nat → Nat → Nat} {rg rn ro : Nat}
theorem zJ_lh (h : zI n d gr gs bg re ce mm rg rn ro) (hJ : zJ n d) : ∀ k, k < n → mm 7 k ≤ mm 8 k := by
  intro k hk
  obtain ⟨⟨q0, q1, q2, q3, q4, -⟩, -⟩ := h.2.2.2.2.1 k hk
  rw [← q3, ← q4]; exact hJ.1 k hk
theorem zJ_tile (h : zI n d gr gs bg re ce mm rg rn ro) (hJ : zJ n d) : zTile (mm 3) (mm 2) (mm 4) n := by
  intro k hk t
  obtain ⟨⟨q0, q1, q2, q3, q4, -⟩, -⟩ := h.2.2.2.2.1 k hk
  rw [← q1] at t
  rw [← q0, hJ.2 k hk t]
  refine zGv_eq k (fun i hi => ?_)
  obtain ⟨⟨q0, q1, q2, -⟩, -⟩ := h.2.2.2.2.1 i (by omega)
  exact ⟨q1, q0, q2⟩
theorem zI_21 (h : zI n d gr gs bg re ce mm rg rn ro) : ∀ k, k < n → 1 ≤ d 2 k := by
  intro k hk
  obtain ⟨⟨q0, q1, q2, -⟩, -, -, -, -, -, c3, -⟩ := h.2.2.2.2.1 k hk
  rw [q2]; exact c3
theorem zL_wide (h : zI n d gr gs bg re ce mm rg rn ro) {sp gp fx : Nat} {x w r q : Int32}
    (h1 : (¬ (0 ≤ x.toInt ∧ x.toInt < ce) ∧ r = -1) ∨ (∃ x0, x0 < ce ∧ x = nI x0 ∧ r = nI (zWi (zWr (d 3) (d 4) (d 0) (d 2) gp (zO, zO) n 6) (zCw fx gp n ce (sp - gp * (ce + 1)) (d 3) (d 1) (d 0) (d 2) (zWr (d 3) (d 4) (d 0) (d 2) gp (zO, zO) n 6).1 (zWr (d 3) (d 4) (d 0) (d 2) gp (zO, zO) n 6).2) w x0)))
    (h2 : (¬ (0 ≤ x.toInt ∧ x.toInt < (zCo mm n : Nat)) ∧ q = -1) ∨ (∃ x0, x0 < zCo mm n ∧ x = nI x0 ∧ q = nI (zWi (zWr (mm 7) (mm 8) (mm 2) (mm 4) gp (zO, zO) n 6) (zCw fx gp n (zCo mm n) (sp - gp * (zCo mm n + 1)) (mm 7) (mm 3) (mm 2) (mm 4) (zWr (mm 7) (mm 8) (mm 2) (mm 4) gp (zO, zO) n 6).1 (zWr (mm 7) (mm 8) (mm 2) (mm 4) gp (zO, zO) n 6).2) w x0))) : r = q := by
  have e4 := h.2.1.2.2.2
  have l := h.2.2.1
  have cells : ∀ i, i < n → d 3 i = mm 7 i ∧ d 4 i = mm 8 i ∧ d 0 i = mm 2 i ∧ d 2 i = mm 4 i ∧ d 1 i = mm 3 i := fun i hi => by
    obtain ⟨⟨q0, q1, q2, q3, q4, -⟩, -⟩ := h.2.2.2.2.1 i hi
    exact ⟨q3, q4, q0, q2, q1⟩
  have eW := zWr_eq (gp := gp) (P := (zO, zO)) (fun i hi => ⟨(cells i hi).1, (cells i hi).2.1, (cells i hi).2.2.1, (cells i hi).2.2.2.1⟩) 6
  have eF : ∀ cs rm, zFw (d 3) (d 1) (d 0) (d 2) gp n cs rm = zFw (mm 7) (mm 3) (mm 2) (mm 4) gp n cs rm := fun cs rm => zFw_eq (fun i hi => ⟨(cells i hi).1, (cells i hi).2.2.2.2, (cells i hi).2.2.1, (cells i hi).2.2.2.1⟩)
  rw [← e4] at h2
  unfold zCw at h1 h2
  rw [eW, eF] at h1
  rcases h1 with ⟨a, rfl⟩ | ⟨x0, a, rfl, rfl⟩
  · rcases h2 with ⟨b, rfl⟩ | ⟨x0, b, rfl, rfl⟩
    · rfl
    · rw [nI_toInt (by omega)] at a
      exact absurd (by omega) a
  · rcases h2 with ⟨b, rfl⟩ | ⟨x1, b, e, rfl⟩
    · rw [nI_toInt (by omega)] at b
      exact absurd (by omega) b
    · have e := (nI_eq (by omega) (by omega)).mp e
      subst e
      rfl
/-- the slots of row 0 that have an owner are those before what is given -/
theorem zTile_own (h : zI n d gr gs bg re ce mm rg rn ro) (hT : zTile (d 1) (d 0) (d 2) n) {j : Nat} : zOwd n d j 0 ↔ j < zGv (d 1) (d 0) (d 2) n := by
  constructor
  · rintro ⟨k, hk, z1, z2⟩
    have t : d 1 k = 0 := by omega
    have m := zGv_mono hT (show k + 1 ≤ n by omega) (Nat.le_refl _)
    rw [zGv_T t] at m
    omega
  · have key : ∀ m, m ≤ n → j < zGv (d 1) (d 0) (d 2) m → ∃ k, k < m ∧ d 1 k = 0 ∧ d 0 k ≤ j ∧ j < d 0 k + d 2 k := by
      intro m
      induction m with
      | zero => intro _ hj; exact absurd hj (Nat.not_lt_zero _)
      | succ m ih =>
        intro hm hj
        by_cases t : d 1 m = 0
        · rw [zGv_T t] at hj
          rcases Nat.lt_or_ge j (d 0 m) with p | p
          · rw [hT m (by omega) t] at p
            obtain ⟨k, hk, r⟩ := ih (by omega) p
            exact ⟨k, by omega, r⟩
          · exact ⟨m, by omega, t, p, hj⟩
        · rw [zGv_F t] at hj
          obtain ⟨k, hk, r⟩ := ih (by omega) hj
          exact ⟨k, by omega, r⟩
    intro hj
    obtain ⟨k, hk, t, p1, p2⟩ := key n (Nat.le_refl _) hj
    have h7 := zI_71 h k hk
    exact ⟨k, hk, ⟨p1, p2⟩, by omega, by omega⟩
theorem zJ_put (h : zI n d gr gs bg re ce mm rg rn ro) (hJ : zJ n d) {x y a b c1 d1 e1 gw r2 : Nat} (hcd : c1 ≤ d1) (hx : x < 12) (hf : zFree (fun x => zOwd n d x y) 0 x) : zJ (n + 1) (zGw (zpu d n (zrec x y a c1 d1 e1 gw b 0 0)) (n + 1) gs r2) := by
  have base : ∀ j k, j < 5 → zGw (zpu d n (zrec x y a c1 d1 e1 gw b 0 0)) (n + 1) gs r2 j k = zpu d n (zrec x y a c1 d1 e1 gw b 0 0) j k := fun j k hj => zGw_n (fun q => by have := q.1; omega)
  refine zJ_same (d := zpu d n (zrec x y a c1 d1 e1 gw b 0 0)) ⟨fun k hk => ?_, fun k hk t => ?_⟩ (fun j k hj _ => base j k hj)
  · by_cases e : k = n
    · subst e; rw [zpu_s, zpu_s]; exact hcd
    · rw [zpu_n e, zpu_n e]; exact hJ.1 k (by omega)
  · have g : ∀ m, m ≤ n → zGv (zpu d n (zrec x y a c1 d1 e1 gw b 0 0) 1) (zpu d n (zrec x y a c1 d1 e1 gw b 0 0) 0) (zpu d n (zrec x y a c1 d1 e1 gw b 0 0) 2) m = zGv (d 1) (d 0) (d 2) m := fun m hm => zGv_eq m (fun i hi => ⟨zpu_n (by omega), zpu_n (by omega), zpu_n (by omega)⟩)
    by_cases e : k = n
    · subst e
      rw [g k (Nat.le_refl _), zpu_s]
      rw [zpu_s] at t
      have t : y = 0 := t
      subst t
      show x = _
      have own := fun j => zTile_own (j := j) h hJ.2
      obtain ⟨-, f1, f2, f3⟩ := hf
      rcases Nat.lt_trichotomy x (zGv (d 1) (d 0) (d 2) k) with p | p | p
      · exact absurd ((own x).mpr p) (f3 hx)
      · exact p
      · exact absurd ((own _).mp (f2 _ (Nat.zero_le _) p)) (Nat.lt_irrefl _)
    · rw [g k (by omega), zpu_n e]
      rw [zpu_n e] at t
      exact hJ.2 k (by omega) t
end ZJJ
section ZJL
variable {n : Nat} {d : Nat → Nat → Nat} {gr gs bg re ce : Nat} {mm : Nat → Nat → Nat} {rg rn ro : Nat}
theorem zJ_gw (hJ : zJ n d) {m g r : Nat} : zJ n (zGw d m g r) := zJ_same hJ (fun j k hj _ => zGw_n (fun q => by have := q.1; omega))
theorem zJ_row (hJ : zJ n d) {r : Int32} {bg2 re2 : Nat} {d2 : Nat → Nat → Nat} (h1 : (11 < gs + bg ∧ r = -1 ∧ bg2 = bg ∧ re2 = re ∧ d2 = d) ∨ (¬ 11 < gs + bg ∧ r = nI (gs + bg) ∧ bg2 = bg + 1 ∧ re2 = (if re < gs + bg + 1 then gs + bg + 1 else re) ∧ d2 = zGw d n gs re2)) : zJ n d2 := by
  rcases h1 with ⟨-, -, -, -, rfl⟩ | ⟨-, -, -, -, rfl⟩
  · exact hJ
  · exact zJ_gw hJ
theorem zJ_border (hJ : zJ n d) {k t w r : Int32} {d2 : Nat → Nat → Nat} (h1 : (¬ ((0 ≤ k.toInt ∧ k.toInt < n) ∧ (0 ≤ t.toInt ∧ t.toInt ≤ 9) ∧ (0 ≤ w.toInt ∧ w.toInt ≤ 4)) ∧ r = 0 ∧ d2 = d) ∨ ∃ k1 t1 w1, k1 < n ∧ t1 ≤ 9 ∧ w1 ≤ 4 ∧ k = nI k1 ∧ t = nI t1 ∧ w = nI w1 ∧ r = 1 ∧ d2 = zup (zup d 8 k1 t1) 9 k1 w1) : zJ n d2 := by
  rcases h1 with ⟨-, -, rfl⟩ | ⟨k1, t1, w1, -, -, -, -, -, -, -, rfl⟩
  · exact hJ
  · exact zJ_same hJ (fun j k hj _ => by rw [zup_n (fun z => by have := z.1; omega), zup_n (fun z => by have := z.1; omega)])
theorem zJ_cell (h : zI n d gr gs bg re ce mm rg rn ro) (hJ : zJ n d) {a b c1 d1 e1 r : Int32} {n2 re2 ce2 : Nat} {ad ad2 : Nat → Nat} {d2 : Nat → Nat → Nat} (h1 : zCf n gs bg re ce ad d a b c1 d1 e1 r n2 re2 ce2 ad2 d2) : zJ n2 d2 := by
  rcases h1 with ⟨-, -, rfl, -, -, -, rfl⟩ | ⟨g, av, bv, cv, dv, ev, B, rfl, rfl, rfl, rfl, rfl, h1⟩
  · exact hJ
  · unfold zBd at B
    have G := zGood_nat (by omega) (by omega) (by omega) (by omega) (by omega) g
    rcases h1 with ⟨-, -, rfl, -, -, -, rfl⟩ | ⟨-, x, hx, h1⟩
    · exact hJ
    · rcases h1 with ⟨-, -, rfl, -, -, -, rfl⟩ | ⟨o, -, rfl, -, -, -, rfl⟩
      · exact hJ
      · exact zJ_put h hJ (by omega) (by omega) hx
end ZJL
/-! ===== places ===== -/
def zPlv (C H : Nat → Nat) (gp l t c r i : Nat) : Nat := match i with
  | 0 => zRs C 0 l + gp * (l + 1)
  | 1 => zRs H 0 t + gp * (t + 1)
  | 2 => zRc C gp l (l + c)
  | _ => zRc H gp t (t + r)
theorem z_pw {L M C : Nat → Nat} {P : (Nat → Nat) × (Nat → Nat)} {F : (Nat → Nat) → (Nat → Nat) → Nat → Nat} (h : (L, M) = P ∧ C = F L M) : C = F P.1 P.2 := by
  rw [← h.1]
  exact h.2
theorem zHs_eq {need top dn need' top' dn' : Nat → Nat} {gp r : Nat} {h : Nat → Nat} : ∀ k, (∀ i, i < k → need i = need' i ∧ top i = top' i ∧ dn i = dn' i) → zHs need top dn gp h r k = zHs need' top' dn' gp h r k := by
  intro k
  induction k with
  | zero => intro _; rfl
  | succ k ih =>
    intro hk
    obtain ⟨a1, a2, a3⟩ := hk k (by omega)
    have i1 := ih (fun i hi => hk i (by omega))
    by_cases e : dn k = r
    · rw [zHs_T e, zHs_T (by rw [← a3]; exact e), i1, a1, a2, a3]
    · rw [zHs_F e, zHs_F (by rw [← a3]; exact e), i1]
theorem zHr_eq {need top dn need' top' dn' : Nat → Nat} {gp n : Nat} {h : Nat → Nat} (hk : ∀ i, i < n → need i = need' i ∧ top i = top' i ∧ dn i = dn' i) : ∀ r, zHr need top dn gp h n r = zHr need' top' dn' gp h n r := by
  intro r
  induction r with
  | zero => rfl
  | succ r ih =>
    show zHs need top dn gp (zHr need top dn gp h n r) (r + 1) n = zHs need' top' dn' gp (zHr need' top' dn' gp h n r) (r + 1) n
    rw [ih, zHs_eq n hk]
section ZPL
variable {n : Nat} {d : Nat → Nat → Nat} {gr gs bg re ce : Nat} {mm : Nat → Nat → Nat} {rg rn ro : Nat}
theorem zL_place (h : zI n d gr gs bg re ce mm rg rn ro) {sp gp fx : Nat} {k w r q : Int32}
    (h1 : (¬ ((0 ≤ k.toInt ∧ k.toInt < n) ∧ (0 ≤ w.toInt ∧ w.toInt ≤ 3)) ∧ r = -1) ∨ (∃ k0 i0, k0 < n ∧ i0 < 4 ∧ k = nI k0 ∧ w = nI i0 ∧ r = nI (zPlv (zCw fx gp n ce (sp - gp * (ce + 1)) (d 3) (d 1) (d 0) (d 2) (zWr (d 3) (d 4) (d 0) (d 2) gp (zO, zO) n 6).1 (zWr (d 3) (d 4) (d 0) (d 2) gp (zO, zO) n 6).2) (zHr (d 5) (d 1) (d 7) gp zO n 12) gp (d 0 k0) (d 1 k0) (d 2 k0) (d 7 k0) i0)))
    (h2 : (¬ ((0 ≤ k.toInt ∧ k.toInt < n) ∧ (0 ≤ w.toInt ∧ w.toInt ≤ 3)) ∧ q = -1) ∨ (∃ k0 i0, k0 < n ∧ i0 < 4 ∧ k = nI k0 ∧ w = nI i0 ∧ q = nI (zPlv (zCw fx gp n (zCo mm n) (sp - gp * (zCo mm n + 1)) (mm 7) (mm 3) (mm 2) (mm 4) (zWr (mm 7) (mm 8) (mm 2) (mm 4) gp (zO, zO) n 6).1 (zWr (mm 7) (mm 8) (mm 2) (mm 4) gp (zO, zO) n 6).2) (zHr (mm 9) (mm 3) (zDn mm n) gp zO n 12) gp (mm 2 k0) (mm 3 k0) (mm 4 k0) (zDn mm n k0) i0))) : r = q := by
  have hn := h.1.2.2
  have e4 := h.2.1.2.2.2
  have cells : ∀ i, i < n → d 3 i = mm 7 i ∧ d 4 i = mm 8 i ∧ d 0 i = mm 2 i ∧ d 2 i = mm 4 i ∧ d 1 i = mm 3 i ∧ d 5 i = mm 9 i ∧ d 7 i = zDn mm n i := fun i hi => by
    obtain ⟨⟨q0, q1, q2, q3, q4, q5, -⟩, -, q7, -⟩ := h.2.2.2.2.1 i hi
    exact ⟨q3, q4, q0, q2, q1, q5, q7⟩
  have eW := zWr_eq (gp := gp) (P := (zO, zO)) (fun i hi => ⟨(cells i hi).1, (cells i hi).2.1, (cells i hi).2.2.1, (cells i hi).2.2.2.1⟩) 6
  have eF : ∀ cs rm, zFw (d 3) (d 1) (d 0) (d 2) gp n cs rm = zFw (mm 7) (mm 3) (mm 2) (mm 4) gp n cs rm := fun cs rm => zFw_eq (fun i hi => ⟨(cells i hi).1, (cells i hi).2.2.2.2.1, (cells i hi).2.2.1, (cells i hi).2.2.2.1⟩)
  have eH := zHr_eq (gp := gp) (h := zO) (fun i hi => ⟨(cells i hi).2.2.2.2.2.1, (cells i hi).2.2.2.2.1, (cells i hi).2.2.2.2.2.2⟩) 12
  have inn : ∀ x : Nat, x < 2147483648 → (nI x).toInt = x := fun x hx => nI_toInt hx
  rw [← e4] at h2
  unfold zCw at h1 h2
  rw [eW, eF, eH] at h1
  rcases h1 with ⟨a, rfl⟩ | ⟨k0, i0, a1, a2, rfl, rfl, rfl⟩
  · rcases h2 with ⟨b, rfl⟩ | ⟨k0, i0, a1, a2, rfl, rfl, rfl⟩
    · rfl
    · rw [inn k0 (by omega), inn i0 (by omega)] at a
      exact absurd (by omega) a
  · rcases h2 with ⟨b, rfl⟩ | ⟨k1, i1, b1, b2, f1, f2, rfl⟩
    · rw [inn k0 (by omega), inn i0 (by omega)] at b
      exact absurd (by omega) b
    · have f1 := (nI_eq (by omega) (by omega)).mp f1
      have f2 := (nI_eq (by omega) (by omega)).mp f2
      subst f1 f2
      obtain ⟨c3, c4, c0, c2, c1, c5, c7⟩ := cells k0 a1
      rw [c0, c1, c2, c7]
end ZPL
theorem zL_layf {a b r : Int32} {f1 sp gp fx sp2 gp2 fx2 : Nat} (h : (¬ ((0 ≤ a.toInt ∧ a.toInt ≤ 10000) ∧ (0 ≤ b.toInt ∧ b.toInt ≤ 20)) ∧ r = 0 ∧ sp2 = sp ∧ gp2 = gp ∧ fx2 = fx) ∨ (sp2 ≤ 10000 ∧ gp2 ≤ 20 ∧ a = nI sp2 ∧ b = nI gp2 ∧ fx2 = f1 ∧ r = 1)) (hf : f1 ≤ 1) (h0 : fx ≤ 1) : fx2 ≤ 1 := by
  rcases h with ⟨-, -, -, -, rfl⟩ | ⟨-, -, -, -, rfl, -⟩
  · exact h0
  · exact hf
