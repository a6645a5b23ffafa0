theorem cTest_0 {S : mS} {a v : Int32} (h : cTest S a v = 0) : inR a 0 2 = true ∧ inR v 0 99 = true ∧ mTests S ≠ 8 := by
  unfold cTest at h
  split at h
  · rename_i c
    rw [Bool.and_eq_true] at c
    split at h
    · omega
    · exact ⟨c.1, c.2, by assumption⟩
  · omega
theorem cSame_0 {S : mS} {a v : Int32} (h : cSame S a v = 0) : inR a 0 2 = true ∧ inR v 0 2 = true ∧ mTests S ≠ 8 := by
  unfold cSame at h
  split at h
  · rename_i c
    rw [Bool.and_eq_true] at c
    split at h
    · omega
    · exact ⟨c.1, c.2, by assumption⟩
  · omega
theorem cLabel_0 {S : mS} {v : Int32} (h : cLabel S v = 0) : inR v 0 2 = true ∧ canL S = true := by
  unfold cLabel at h
  split at h
  · split at h
    · exact ⟨by assumption, by assumption⟩
    · omega
  · omega
theorem canL_of {S : mS} (h : canL S = true) : 0 < mK S 16 ∧ mB S 9 (12 + mK S 16 - 1) = true := by
  simpa [canL] using h
theorem canB_of {S : mS} (h : canB S = true) : 1 < mK S 16 ∧ mB S 9 (12 + mK S 16 - 1) = true ∧ mB S 9 (12 + mK S 16 - 2) = true := by
  simpa [canB] using h
theorem mTests_le {S : mS} (I : mInv S) : mTests S ≤ 8 := I.2.2.2.2.2.2.2.2.2.2.2.1
theorem pile_le {S : mS} (I : mInv S) : mK S 16 ≤ 8 := I.2.2.2.2.2.2.2.2.2.2.1
theorem pats_le {S : mS} (I : mInv S) : mK S 15 ≤ 12 := I.2.2.2.2.2.2.2.2.2.1
theorem tPuts_12 {S : mS} {x : Nat} (h1 : 48 * (12 + mK S 16) ≤ x) (h2 : x < 48 * (12 + mK S 16) + 6) : mN (tPuts S) 12 x = 0 := by
  show mN (uK (uN (uN (puV S (12 + mK S 16) 3) 13 (8 * (12 + mK S 16)) 0) 14 (8 * (12 + mK S 16)) 0) 16 (mK S 16 + 1)) 12 x = 0
  rw [mN_uK, mN_uN, if_neg (by omega), mN_uN, if_neg (by omega), puV, mN_sN, if_pos rfl, if_pos (by omega)]
theorem tPuts_14 {S : mS} : mN (tPuts S) 14 (8 * (12 + mK S 16)) = 0 := by
  show mN (uK (uN (uN (puV S (12 + mK S 16) 3) 13 (8 * (12 + mK S 16)) 0) 14 (8 * (12 + mK S 16)) 0) 16 (mK S 16 + 1)) 14 _ = 0
  rw [mN_uK, mN_uN, if_pos ⟨rfl, rfl⟩]
theorem boL_step {S : mS} {a o k : Nat} : uN (uN (uI (boL S a o k) 11 (3 * a + k) (vJoin (mI S 11 (3 * a + k)) (mI S 11 (3 * o + k)))) 12 (6 * a + 2 * k) (mN S 12 (6 * a + 2 * k) ||| mN S 12 (6 * o + 2 * k))) 12 (6 * a + 2 * k + 1) (mN S 12 (6 * a + 2 * k + 1) ||| mN S 12 (6 * o + 2 * k + 1)) = boL S a o (k + 1) := by
  unfold boL
  rw [uI_sN, sI_step (g := fun x => if 3 * a ≤ x ∧ x < 3 * a + (k + 1) then vJoin (mI S 11 x) (mI S 11 (3 * o + (x - 3 * a))) else mI S 11 x)]
  · rw [sN_step (g := fun x => if 6 * a ≤ x ∧ x < 6 * a + 2 * k + 1 then mN S 12 x ||| mN S 12 (6 * o + (x - 6 * a)) else mN S 12 x)]
    · rw [sN_step]
      intro z
      by_cases c : z = 6 * a + 2 * k + 1
      · rw [if_pos c, if_pos (by omega), c, show 6 * o + (6 * a + 2 * k + 1 - 6 * a) = 6 * o + 2 * k + 1 by omega]
      · rw [if_neg c]
        by_cases d : 6 * a ≤ z ∧ z < 6 * a + 2 * k + 1
        · rw [if_pos d, if_pos (by omega)]
        · rw [if_neg d, if_neg (by omega)]
    · intro z
      by_cases c : z = 6 * a + 2 * k
      · rw [if_pos c, if_pos (by omega), c, show 6 * o + (6 * a + 2 * k - 6 * a) = 6 * o + 2 * k by omega]
      · rw [if_neg c]
        by_cases d : 6 * a ≤ z ∧ z < 6 * a + 2 * k
        · rw [if_pos d, if_pos (by omega)]
        · rw [if_neg d, if_neg (by omega)]
  · intro z
    by_cases c : z = 3 * a + k
    · rw [if_pos c, if_pos (by omega), c, show 3 * o + (3 * a + k - 3 * a) = 3 * o + k by omega]
    · rw [if_neg c]
      by_cases d : 3 * a ≤ z ∧ z < 3 * a + k
      · rw [if_pos d, if_pos (by omega)]
      · rw [if_neg d, if_neg (by omega)]
theorem boL_0 (S : mS) (a o : Nat) : S = boL S a o 0 := by
  unfold boL
  rw [← sI_init (S := S)]
  · apply sN_init
    intro z
    rw [if_neg (by omega)]
  · intro z
    rw [if_neg (by omega)]
theorem boL_rI {S : mS} {a o k : Nat} : mI (boL S a o k) 11 (3 * a + k) = mI S 11 (3 * a + k) := by
  rw [boL, mI_sN, mI_sI, if_pos rfl, if_neg (by omega)]
theorem boL_rIo {S : mS} {a o k : Nat} (h : a ≠ o) (hk : k < 3) : mI (boL S a o k) 11 (3 * o + k) = mI S 11 (3 * o + k) := by
  rw [boL, mI_sN, mI_sI, if_pos rfl, if_neg (by omega)]
theorem boL_rN {S : mS} {a o k z : Nat} (hz : z < 6 * a ∨ 6 * a + 2 * k ≤ z) : mN (boL S a o k) 12 z = mN S 12 z := by
  rw [boL, mN_sN, if_pos rfl, if_neg (by omega)]
theorem beL_step {S : mS} {p k : Nat} (hk : k < 256) : uB (beL S p k) 10 (256 * p + k) (mB S 17 k) = beL S p (k + 1) := by
  unfold beL
  rw [sB_step]
  intro z
  by_cases c : z = 256 * p + k
  · rw [if_pos c, if_pos (by omega), c, Nat.add_sub_cancel_left]
  · rw [if_neg c]
    by_cases d : 256 * p ≤ z ∧ z < 256 * p + k
    · rw [if_pos d, if_pos (by omega)]
    · rw [if_neg d, if_neg (by omega)]
theorem beL_0 (S : mS) (p : Nat) : S = beL S p 0 := by
  unfold beL
  apply sB_init
  intro z
  rw [if_neg (by omega)]
theorem cpP_step {S : mS} {a t k : Nat} : uB (cpP S a t k) 10 (256 * t + k) (mB S 10 (256 * a + k)) = cpP S a t (k + 1) := by
  unfold cpP
  rw [sB_step]
  intro z
  by_cases c : z = 256 * t + k
  · rw [if_pos c, if_pos (by omega), c, Nat.add_sub_cancel_left]
  · rw [if_neg c]
    by_cases d : 256 * t ≤ z ∧ z < 256 * t + k
    · rw [if_pos d, if_pos (by omega)]
    · rw [if_neg d, if_neg (by omega)]
theorem cpP_0 (S : mS) (a t : Nat) : uB (uN S 8 t (mN S 8 a)) 9 t (mB S 9 a) = cpP S a t 0 := by
  unfold cpP
  apply sB_init
  intro z
  rw [if_neg (by omega)]; rfl
theorem cpP_r {S : mS} {a t k : Nat} (h : a ≠ t) (hk : k < 256) : mB (cpP S a t k) 10 (256 * a + k) = mB S 10 (256 * a + k) := by
  rw [cpP, mB_sB, if_pos rfl, if_neg (by omega)]
def chL (S : mS) (f : Nat → Bool) (k : Nat) : mS := sB S 17 (fun z => if z < k then f z else mB S 17 z)
theorem chL_0 (S : mS) (f : Nat → Bool) : S = chL S f 0 := by
  unfold chL
  apply sB_init
  intro z
  rw [if_neg (by omega)]
theorem chL_step {S : mS} {f : Nat → Bool} {k : Nat} : uB (chL S f k) 17 k (f k) = chL S f (k + 1) := by
  unfold chL
  rw [sB_step]
  intro z
  by_cases c : z = k
  · rw [if_pos c, if_pos (by omega), c]
  · rw [if_neg c]
    by_cases d : z < k
    · rw [if_pos d, if_pos (by omega)]
    · rw [if_neg d, if_neg (by omega)]
def wCh (S : mS) (p : Nat) (z : Nat) : Bool := mB S 10 (256 * p + z % 2 ^ mN S 8 p) && mB S 10 (256 * (p + 1) + z / 2 ^ mN S 8 p)
def wEi (S : mS) (p : Nat) (z : Nat) : Bool := (decide (z < 2 ^ mN S 8 p) && mB S 10 (256 * p + z)) || (decide (z % 2 ^ mN S 8 p = 0) && mB S 10 (256 * (p + 1) + z / 2 ^ mN S 8 p))
def tTwo (S : mS) (f : mS → Nat → Nat → Bool) : mS := if cTwo S = 0 then uK (tBec (chL (tLays (uK S 0 0)) (f S (12 + mK S 16 - 2)) 256) (12 + mK S 16 - 2) (mN S 8 (12 + mK S 16 - 2) + mN S 8 (12 + mK S 16 - 2 + 1))) 16 (mK S 16 - 1) else uK S 0 1
def rTwo (S : mS) : Nat := if cTwo S = 0 then mK S 16 - 1 else 0
def rBoth (S : mS) : Nat := if cBoth S = 0 then mK S 16 - 1 else 0

