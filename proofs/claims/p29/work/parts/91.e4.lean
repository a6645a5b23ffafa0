/-! groups: ranks are a numbering of the values -/
theorem sum_comm (f : Nat → Nat → Nat) (m : Nat) : ∀ n, sumTo (fun i => sumTo (fun j => f i j) m) n = sumTo (fun j => sumTo (fun i => f i j) n) m
  | 0 => by
    show 0 = sumTo (fun j => 0) m
    have := sumTo_le (f := fun _ => 0) (c := 0) (k := m) (fun _ _ => Nat.le_refl _)
    omega
  | n + 1 => by
    rw [sumTo_s, sum_comm f m n, ← sumTo_add]
    exact sumTo_congr (fun j _ => sumTo_s.symm)
theorem sum_const (c : Nat) : ∀ n, sumTo (fun _ => c) n = n * c
  | 0 => by rw [Nat.zero_mul]; rfl
  | n + 1 => by rw [sumTo_s, sum_const c n, Nat.succ_mul]
theorem inj_1 {f : Nat → Nat} {k : Nat} : ∀ n, (∀ i j, i < n → j < n → f i = f j → i = j) → sumTo (fun v => if k = f v then 1 else 0) n ≤ 1
  | 0, _ => by show 0 ≤ 1; omega
  | n + 1, h => by
    rw [sumTo_s]
    have i := inj_1 (f := f) (k := k) n (fun i j hi hj => h i j (by omega) (by omega))
    by_cases c : k = f n
    · rw [if_pos c]
      have : sumTo (fun v => if k = f v then 1 else 0) n ≤ n * 0 := sumTo_le (fun j hj => by
        show (if k = f j then 1 else 0) ≤ 0
        rw [if_neg (fun z => by have := h j n (by omega) (by omega) (by omega); omega)]
        exact Nat.le_refl _)
      omega
    · rw [if_neg c]; omega
theorem surj_1 {f : Nat → Nat} {n k : Nat} (h : ∀ i j, i < n → j < n → f i = f j → i = j) (hf : ∀ i, i < n → f i < n) (hk : k < n) : ∃ v, v < n ∧ f v = k := by
  have h1 : sumTo (fun k => sumTo (fun v => if k = f v then 1 else 0) n) n = n := by
    rw [sum_comm, sumTo_congr (g := fun _ => 1) (fun j hj => by rw [sumTo_one, if_pos (hf j hj)]), sum_const, Nat.mul_one]
  rcases Nat.eq_zero_or_pos (sumTo (fun v => if k = f v then 1 else 0) n) with z | z
  · have h2 := sumTo_lt (f := fun k => sumTo (fun v => if k = f v then 1 else 0) n) (g := fun _ => 1) (j0 := k) (k := n) (fun j _ => inj_1 n h) hk (by show sumTo (fun v => if k = f v then 1 else 0) n < 1; omega)
    rw [h1, sum_const, Nat.mul_one] at h2
    omega
  · refine Classical.byContradiction (fun y => ?_)
    have : sumTo (fun v => if k = f v then 1 else 0) n ≤ n * 0 := sumTo_le (fun j hj => by
      show (if k = f j then 1 else 0) ≤ 0
      rw [if_neg (fun e => y ⟨j, hj, e.symm⟩)]
      exact Nat.le_refl _)
    omega
def ahd (c : Nat → Nat) (w v : Nat) : Prop := c v < c w ∨ c w = c v ∧ w < v
theorem xh_lt {c : Nat → Nat} {v w : Nat} (hv : v < 100) (h : ahd c v w) : ahM c v 100 < ahM c w 100 := by
  unfold ahd at h
  unfold ahM
  refine sumTo_lt (j0 := v) (fun j _ => ?_) hv ?_
  · by_cases e : c v < c j ∨ c j = c v ∧ j < v
    · rw [if_pos e, if_pos (by omega)]; exact Nat.le_refl _
    · rw [if_neg e]; omega
  · rw [if_neg (by omega), if_pos (by omega)]; omega
theorem xh_inj {c : Nat → Nat} {v w : Nat} (hv : v < 100) (hw : w < 100) (h : ahM c v 100 = ahM c w 100) : v = w := by
  rcases Nat.lt_trichotomy v w with z | z | z
  · rcases Nat.lt_or_ge (c v) (c w) with y | y
    · have := xh_lt (c := c) hw (v := w) (w := v) (Or.inl y); omega
    · have := xh_lt (c := c) hv (v := v) (w := w) (by unfold ahd; omega); omega
  · exact z
  · rcases Nat.lt_or_ge (c w) (c v) with y | y
    · have := xh_lt (c := c) hv (v := v) (w := w) (Or.inl y); omega
    · have := xh_lt (c := c) hw (v := w) (w := v) (by unfold ahd; omega); omega
theorem xh_100 {c : Nat → Nat} {v : Nat} (hv : v < 100) : ahM c v 100 < 100 := by
  have := sumTo_lt (f := fun j => if c v < c j ∨ c j = c v ∧ j < v then 1 else 0) (g := fun _ => 1) (j0 := v) (k := 100) (fun j _ => by show (if _ then 1 else 0) ≤ 1; split <;> omega) hv (by show (if c v < c v ∨ c v = c v ∧ v < v then 1 else 0) < 1; rw [if_neg (by omega)]; omega)
  rw [sum_const] at this
  unfold ahM; omega
theorem xh_n {c : Nat → Nat} {v : Nat} (hv : v < 100) : ahM c v 100 < sumTo (fun v => if 0 < c v then 1 else 0) 100 ↔ 0 < c v := by
  constructor
  · intro h
    refine Nat.pos_of_ne_zero (fun z => ?_)
    have : sumTo (fun v => if 0 < c v then 1 else 0) 100 ≤ ahM c v 100 := sumTo_mono (fun j _ => by
      by_cases e : 0 < c j
      · rw [if_pos e, if_pos (by omega)]; exact Nat.le_refl _
      · rw [if_neg e]; omega)
    omega
  · intro h
    refine sumTo_lt (j0 := v) (fun j _ => ?_) hv ?_
    · by_cases e : c v < c j ∨ c j = c v ∧ j < v
      · rw [if_pos e, if_pos (by omega)]; exact Nat.le_refl _
      · rw [if_neg e]; omega
    · rw [if_neg (by omega), if_pos h]; omega
/-- the k-th group -/
theorem gr_ex {c : Nat → Nat} {k : Nat} (hk : k < sumTo (fun v => if 0 < c v then 1 else 0) 100) : ∃ v, v < 100 ∧ ahM c v 100 = k ∧ 0 < c v ∧ fdG c k 100 = v := by
  have h100 : sumTo (fun v => if 0 < c v then 1 else 0) 100 ≤ 100 := by
    have := sumTo_le (f := fun v => if 0 < c v then 1 else 0) (c := 1) (k := 100) (fun j _ => by show (if _ then 1 else 0) ≤ 1; split <;> omega)
    omega
  obtain ⟨v, h1, h2⟩ := surj_1 (f := fun v => ahM c v 100) (n := 100) (k := k) (fun i j hi hj e => xh_inj hi hj e) (fun i hi => xh_100 hi) (by omega)
  replace h2 : ahM c v 100 = k := h2
  refine ⟨v, h1, h2, (xh_n h1).mp (by omega), ?_⟩
  have := fdG_of (c := c) h1 (99 - v) (by omega)
  rw [show v + 1 + (99 - v) = 100 by omega, h2] at this
  exact this
theorem gr_ord {c : Nat → Nat} {k : Nat} (hk : k + 1 < sumTo (fun v => if 0 < c v then 1 else 0) 100) : ahd c (fdG c k 100) (fdG c (k + 1) 100) := by
  obtain ⟨v, h1, h2, h3, h4⟩ := gr_ex (c := c) (k := k) (by omega)
  obtain ⟨w, k1, k2, k3, k4⟩ := gr_ex hk
  rw [h4, k4]
  unfold ahd
  refine Classical.byContradiction (fun z => ?_)
  by_cases e : v = w
  · subst e; omega
  · have := xh_lt (c := c) k1 (v := w) (w := v) (by unfold ahd; omega)
    omega
theorem gr_sum {c : Nat → Nat} : sumTo (fun k => c (fdG c k 100)) (sumTo (fun v => if 0 < c v then 1 else 0) 100) = sumTo c 100 := by
  have e : ∀ k, k < sumTo (fun v => if 0 < c v then 1 else 0) 100 → c (fdG c k 100) = sumTo (fun v => if k = ahM c v 100 then c v else 0) 100 := fun k hk => by
    obtain ⟨v, h1, h2, h3, h4⟩ := gr_ex hk
    rw [h4, sumTo_congr (g := fun w => if w = v then c v else 0) (fun w hw => ?_), sumTo_one, if_pos h1]
    by_cases y : w = v
    · subst y; rw [if_pos h2.symm, if_pos rfl]
    · rw [if_neg y, if_neg (fun q => y (xh_inj (c := c) hw h1 (by omega)))]
  rw [sumTo_congr e, sum_comm]
  refine sumTo_congr (fun v hv => ?_)
  rw [sumTo_one]
  split
  · rfl
  · rename_i z
    have := mt (xh_n (c := c) hv).mpr z
    omega
theorem cv_sum {g : mS} {r a : Nat} {L : Bool} (hv : ∀ k, k < 360 → hasB g r k = true → vlM g r a L k < 100) : sumTo (fun v => cvM g r a L 360 v) 100 = cntM g r 360 := by
  unfold cvM cntM
  rw [sum_comm]
  refine sumTo_congr (fun j hj => ?_)
  by_cases c : hasB g r j = true
  · rw [sumTo_congr (g := fun v => if v = vlM g r a L j then 1 else 0) (fun v _ => by
      by_cases e : v = vlM g r a L j
      · rw [if_pos e, if_pos ⟨c, e.symm⟩]
      · rw [if_neg e, if_neg (fun z => e z.2.symm)]), sumTo_one, if_pos (hv j hj c), c]; rfl
  · rw [sumTo_congr (g := fun _ => 0) (fun v _ => by rw [if_neg (fun z => c z.1)]), sum_const, (by simpa using c : hasB g r j = false)]; rfl
theorem x_grC {g g' : mS} (h : eqv g g') : (∀ i, mN g' 21 i = mN g 21 i) ∧ (∀ i, mN g' 2 i = mN g 2 i) ∧ ∀ i, mI g' 20 i = mI g 20 i := ⟨h.N21, fun i => h.N (by decide) i, h.I20⟩
theorem x_rGA {g g' : mS} (h : eqv g g') (r a : Int32) (L : Bool) (z : Int32) : cGA g' r a L z = cGA g r a L z ∧ rGA g' r a L z = rGA g r a L z := by
  have e1 : cGA g' r a L z = cGA g r a L z := by unfold cGA; rw [x_mIsR h.I20, ndM_c (x_grC h)]
  refine ⟨e1, ?_⟩
  unfold rGA
  rw [e1, show cvM g' (tn r) (tn a) L 360 = cvM g (tn r) (tn a) L 360 from funext (fun v => cvM_c (x_grC h) _ _ _ _ _)]
/-- a result with its groups -/
theorem gr_facts {g : mS} (I : mInv g) {r a : Nat} {L : Bool} (hr : r < 8) (h : mI g 20 r ≠ -1) (ha : a < 3) :
    ndM g r a L 360 = sumTo (fun v => if 0 < cvM g r a L 360 v then 1 else 0) 100 ∧ ndM g r a L 360 ≤ mSize g r ∧ sumTo (fun v => cvM g r a L 360 v) 100 = mSize g r := by
  have hv := vl_lt I hr h ha L
  have e1 := nd_cnt hv 360 (Nat.le_refl _)
  have e2 := cv_sum hv
  rw [← mSize_cnt I hr] at e2
  refine ⟨e1, ?_, e2⟩
  rw [e1, ← e2]
  exact sumTo_mono (fun v _ => by split <;> omega)
