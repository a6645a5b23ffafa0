theorem bI_inj {a c : Bool} : bI a = bI c ↔ a = c := by cases a <;> cases c <;> decide
def sameH (S T : mS) : Prop := sameC S T ∧ ∀ i, mN S 7 i = mN T 7 i
theorem mHas_c {S T : mS} (h : sameH S T) (s its pat : Nat) : mHas S s its pat = mHas T s its pat := by
  unfold mHas
  rw [h.1.1]
  congr 1
  funext j
  unfold haF paB
  rw [mLong_c h.1, h.1.2.2.1, h.2]
def sdR (S : mS) (r : Nat) : Nat := if mI S 20 r = nI 1 then 1 else 0
theorem sdR_lt (S : mS) (r : Nat) : sdR S r < 2 := by unfold sdR; split <;> omega
theorem sdR_of {S : mS} (I : mInv S) {r : Nat} (hr : r < 8) (h : mI S 20 r ≠ -1) : mI S 20 r = nI (sdR S r) := by
  have h1 := I.2.2.2.2.2.2.2.2.2.2.2.2.1 r hr
  unfold sdR
  rcases h1 with q | q | q
  · exact absurd q h
  · rw [q, if_neg (by decide)]
  · rw [if_pos q, q]
def cAl (S : mS) (r pat : Int32) : Nat := if (mIsR S r && mIsP S pat) = true then 0 else 1
theorem cAl_0 {S : mS} (I : mInv S) {r pat : Int32} (h : cAl S r pat = 0) : r = nI (tn r) ∧ tn r < 8 ∧ mI S 20 (tn r) ≠ -1 ∧ pat = nI (tn pat) ∧ tn pat < mK S 15 := by
  unfold cAl at h
  split at h
  · rename_i c
    rw [Bool.and_eq_true] at c
    obtain ⟨e1, e2, e3⟩ := mIsR_of c.1
    have i1 := pats_le I
    obtain ⟨e4, e5⟩ := inI_of (by omega) c.2
    exact ⟨e1, e2, e3, e4, e5⟩
  · omega
def alB (S : mS) (r pat : Nat) (nn : Bool) (k : Nat) : Bool := !decide (mN S 21 (40 * r + k) = 0) && !decide (mHas S (sdR S r) (mN S 3 (40 * sdR S r + k)) pat = nn)
def alV (S : mS) (r pat : Nat) (nn : Bool) (k : Nat) : Nat := if alB S r pat nn k = true then mN S 21 (40 * r + k) else 0
def alF (S : mS) (r pat : Nat) (nn : Bool) (k : Nat) : Nat → Nat := fun z => if 40 * r ≤ z ∧ z < 40 * r + k then alV S r pat nn (z - 40 * r) else mN S 21 z
def alS (S : mS) (r pat : Nat) (nn : Bool) (k : Nat) : mS := sN (uK S 0 0) 21 (alF S r pat nn k)
theorem al_init {S : mS} {r pat : Nat} {nn : Bool} : uK S 0 0 = sI (alS S r pat nn 0) 19 (fun z => mI S 19 z) := by
  unfold alS
  rw [← sN_init (S := uK S 0 0) (k := 21)]
  · apply sI_init
    intro z; rfl
  · intro z
    unfold alF
    rw [if_neg (by omega)]; rfl
theorem al_r {S : mS} {r pat k : Nat} {nn : Bool} : mN (alS S r pat nn k) 21 (40 * r + k) = mN S 21 (40 * r + k) := by
  unfold alS
  rw [mN_sN, if_pos rfl]
  unfold alF
  rw [if_neg (by omega)]
theorem al_step {S : mS} {r pat k : Nat} {nn : Bool} {g : Nat → Int32} : uN (sI (alS S r pat nn k) 19 g) 21 (40 * r + k) (alV S r pat nn k) = sI (alS S r pat nn (k + 1)) 19 g := by
  rw [uN_sI]
  unfold alS
  rw [sN_step (g := alF S r pat nn (k + 1))]
  intro z
  unfold alF
  by_cases c : z = 40 * r + k
  · rw [if_pos c, if_pos (by omega), c, Nat.add_sub_cancel_left]
  · rw [if_neg c]
    by_cases d : 40 * r ≤ z ∧ z < 40 * r + k
    · rw [if_pos d, if_pos (by omega)]
    · rw [if_neg d, if_neg (by omega)]
theorem alF_lt {S : mS} (I : mInv S) {r pat z : Nat} {nn : Bool} (hr : r < 8) (hz : z < 320) : alF S r pat nn 40 z < 512 := by
  unfold alF
  split
  · unfold alV
    split
    · exact len_lt I (by omega)
    · omega
  · exact len_lt I hz
def tAl (S : mS) (r pat : Int32) (nn : Bool) : mS := if cAl S r pat = 0 then alS S (tn r) (tn pat) nn 40 else uK S 0 1
def rAl (S : mS) (r pat : Int32) (nn : Bool) : Nat := if cAl S r pat = 0 then mSize (tAl S r pat nn) (tn r) else 0
def hasB (S : mS) (r k : Nat) : Bool := decide (mN S 21 (40 * r + k / 9) / 2 ^ (k % 9) % 2 = 1)
def cntM (S : mS) (r k : Nat) : Nat := sumTo (fun j => (hasB S r j).toNat) k
def fdM (S : mS) (r m : Nat) : Nat → Nat
  | 0 => 0
  | k + 1 => if hasB S r k = true ∧ cntM S r k = m then 100 * (k / 9) + k % 9 else fdM S r m k
def cMatch (S : mS) (r m : Int32) : Nat := if (mIsR S r && inI m (nI 0) (nI (mSize S (tn r)) - nI 1)) = true then 0 else 1
theorem mSize_le (S : mS) (r : Nat) : mSize S r ≤ 320 := by
  unfold mSize
  refine Nat.le_trans (sumTo_le (c := 8) (k := 40) fun j _ => ?_) (by decide)
  unfold bits8
  exact Nat.le_trans (sumTo_le (c := 1) (k := 8) fun i _ => by omega) (by decide)
theorem cMatch_0 {S : mS} {r m : Int32} (h : cMatch S r m = 0) : r = nI (tn r) ∧ tn r < 8 ∧ m = nI (tn m) ∧ tn m < 320 := by
  unfold cMatch at h
  split at h
  · rename_i c
    rw [Bool.and_eq_true] at c
    obtain ⟨e1, e2, -⟩ := mIsR_of c.1
    have h1 := mSize_le S (tn r)
    obtain ⟨e4, e5⟩ := inI_of (by omega) c.2
    exact ⟨e1, e2, e4, by omega⟩
  · omega
def rMatch (S : mS) (r m : Int32) : Nat := if cMatch S r m = 0 then fdM S (tn r) (tn m) 360 else 0
theorem sub_sub_nI (a c : Nat) (w : Bool) : (nI a - nI c) - bI w = nI a - nI (c + w.toNat) := by
  rw [bI_n, ← nI_add, Int32.sub_eq_add_neg, Int32.sub_eq_add_neg, Int32.sub_eq_add_neg, Int32.neg_add, Int32.add_assoc, Int32.sub_eq_add_neg]
theorem sub_0 {a c : Nat} (ha : a < 2147483648) (hc : c < 2147483648) : nI a - nI c = 0 ↔ c = a := by
  constructor
  · intro h
    have : nI a = nI c := by
      have h2 := congrArg (fun z => z + nI c) h
      simp only [Int32.sub_add_cancel, Int32.zero_add] at h2
      exact h2
    exact (nI_inj ha hc this).symm
  · intro h; rw [h, Int32.sub_self]
theorem sub_cnt0 (a : Nat) (S : mS) (r : Nat) : nI a - nI (cntM S r 0) = nI a := by
  show nI a - nI 0 = nI a
  rw [nI_0]; exact Int32.sub_zero _
theorem cntM_le (S : mS) (r k : Nat) : cntM S r k ≤ k := by
  have := sumTo_le (f := fun j => (hasB S r j).toNat) (c := 1) (k := k) (fun j _ => by cases hasB S r j <;> decide)
  unfold cntM
  omega
/-- groups -/
def plM (L : Bool) (k : Nat) : Nat := k / 9 + (if L = true then k % 9 - 1 else 0)
def vlM (S : mS) (r a : Nat) (L : Bool) (k : Nat) : Nat := mVal S (sdR S r) (plM L k) a
def cvM (S : mS) (r a : Nat) (L : Bool) (k z : Nat) : Nat := sumTo (fun j => if hasB S r j = true ∧ vlM S r a L j = z then 1 else 0) k
def ndM (S : mS) (r a : Nat) (L : Bool) : Nat → Nat
  | 0 => 0
  | k + 1 => ndM S r a L k + (if hasB S r k = true ∧ cvM S r a L k (vlM S r a L k) = 0 then 1 else 0)
def cvR (S : mS) (r a : Nat) (L : Bool) (k : Nat) : Nat → Nat := fun z => if z < 100 then cvM S r a L k z else mN S 22 z
theorem cvM_le (S : mS) (r a : Nat) (L : Bool) (k z : Nat) : cvM S r a L k z ≤ k := by
  have := sumTo_le (f := fun j => if hasB S r j = true ∧ vlM S r a L j = z then 1 else 0) (c := 1) (k := k) (fun j _ => ite_le (by omega) (by omega))
  unfold cvM
  omega
theorem ndM_le (S : mS) (r a : Nat) (L : Bool) : ∀ k, ndM S r a L k ≤ k
  | 0 => Nat.le_refl _
  | k + 1 => by
    rw [ndM]
    have := ndM_le S r a L k
    split <;> omega
theorem pl_lt {S : mS} (I : mInv S) {r k : Nat} (hr : r < 8) (h1 : mI S 20 r ≠ -1) (hk : k < 360) (h : mN S 21 (40 * r + k / 9) / 2 ^ (k % 9) % 2 = 1) (L : Bool) : plM L k < 40 ∧ 1 ≤ k % 9 := by
  have e := sdR_of I hr h1
  have h2 := I.2.2.2.2.2.2.2.2.2.2.2.2.2.2.1 r (sdR S r) hr (sdR_lt S r) e (k / 9) (by omega) (k % 9) (by omega) h
  have h3 := I.1 (sdR S r) (sdR_lt S r)
  have h4 := (I.2.2.2.2.2.2.2.2.2.2.2.2.2.1 (40 * r + k / 9) (by omega)).2
  have h5 : 1 ≤ k % 9 := by
    rcases Nat.eq_zero_or_pos (k % 9) with q | q
    · rw [q, Nat.pow_zero, Nat.div_one] at h; omega
    · exact q
  refine ⟨?_, h5⟩
  unfold plM
  split <;> omega
theorem cv_step {S : mS} {r a k : Nat} {L : Bool} (h : hasB S r k = true) (hv : vlM S r a L k < 100) : uN (sN S 22 (cvR S r a L k)) 22 (vlM S r a L k) (cvM S r a L k (vlM S r a L k) + 1) = sN S 22 (cvR S r a L (k + 1)) := by
  rw [sN_step (g := cvR S r a L (k + 1))]
  intro z
  unfold cvR
  by_cases c : z = vlM S r a L k
  · rw [if_pos c, if_pos (by omega), c]
    show _ = sumTo _ (k + 1)
    rw [sumTo, if_pos ⟨h, rfl⟩]; rfl
  · rw [if_neg c]
    by_cases d : z < 100
    · rw [if_pos d, if_pos d]
      show _ = sumTo _ (k + 1)
      rw [sumTo, if_neg (fun q => c q.2.symm)]; rfl
    · rw [if_neg d, if_neg d]
theorem cv_skip {S : mS} {r a k : Nat} {L : Bool} (h : ¬ hasB S r k = true) : sN S 22 (cvR S r a L k) = sN S 22 (cvR S r a L (k + 1)) := by
  congr 1
  funext z
  unfold cvR
  split
  · show _ = sumTo _ (k + 1)
    rw [sumTo, if_neg (fun q => h q.1)]; rfl
  · rfl
def cGr (S : mS) (r a : Int32) : Nat := if mIsR S r = true then (if inR a 0 2 = true then 0 else 2) else 1
theorem cGr_0 {S : mS} {r a : Int32} (h : cGr S r a = 0) : r = nI (tn r) ∧ tn r < 8 ∧ mI S 20 (tn r) ≠ -1 ∧ a = nI (tn a) ∧ tn a < 3 := by
  unfold cGr at h
  split at h
  · rename_i c
    split at h
    · rename_i d
      obtain ⟨e1, e2, e3⟩ := mIsR_of c
      obtain ⟨e4, -, e5⟩ := inR_of d (by decide) (by decide)
      exact ⟨e1, e2, e3, e4, by omega⟩
    · omega
  · omega
def rGr (S : mS) (r a : Int32) (L : Bool) : Nat := if cGr S r a = 0 then ndM S (tn r) (tn a) L 360 else 0
def cGA (S : mS) (r a : Int32) (L : Bool) (g : Int32) : Nat := if mIsR S r = true then (if inR a 0 2 = true then (if inI g (nI 0) (nI (ndM S (tn r) (tn a) L 360) - nI 1) = true then 0 else 1) else 2) else 1
def ahM (c : Nat → Nat) (v k : Nat) : Nat := sumTo (fun j => if c v < c j ∨ c j = c v ∧ j < v then 1 else 0) k
def fdG (c : Nat → Nat) (g : Nat) : Nat → Nat
  | 0 => 0
  | v + 1 => if ahM c v 100 = g then v else fdG c g v
theorem fdG_lt (c : Nat → Nat) (g : Nat) : ∀ v, fdG c g v ≤ v - 1
  | 0 => Nat.le_refl _
  | v + 1 => by
    rw [fdG]
    have := fdG_lt c g v
    split <;> omega
theorem ahM_le (c : Nat → Nat) (v k : Nat) : ahM c v k ≤ k := by
  have := sumTo_le (f := fun j => if c v < c j ∨ c j = c v ∧ j < v then 1 else 0) (c := 1) (k := k) (fun j _ => ite_le (by omega) (by omega))
  unfold ahM
  omega
def rGA (S : mS) (r a : Int32) (L : Bool) (g : Int32) : Nat := if cGA S r a L g = 0 then 1000 * cvM S (tn r) (tn a) L 360 (fdG (cvM S (tn r) (tn a) L 360) (tn g) 100) + fdG (cvM S (tn r) (tn a) L 360) (tn g) 100 else 0

