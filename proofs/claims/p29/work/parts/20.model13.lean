theorem nI_xor (a b : Nat) : nI a ^^^ nI b = nI (a ^^^ b) := by
  apply Int32.toBitVec_inj.mp
  show BitVec.ofNat 32 a ^^^ BitVec.ofNat 32 b = BitVec.ofNat 32 (a ^^^ b)
  rw [BitVec.ofNat_xor]
theorem nI_andN (a b : Nat) : nI a &&& (nI b ^^^ (-1)) = nI (a &&& (b ^^^ 4294967295)) := by
  rw [show (-1 : Int32) = nI 4294967295 by decide, nI_xor, nI_and]
def cJoin (S : mS) (r o bb : Int32) : Nat := if (mIsR S r && mIsR S o) = true then (if inR bb 0 2 = true then (if mI S 20 (tn r) = mI S 20 (tn o) then 0 else 3) else 2) else 1
theorem cJoin_0 {S : mS} {r o bb : Int32} (h : cJoin S r o bb = 0) : r = nI (tn r) ∧ tn r < 8 ∧ o = nI (tn o) ∧ tn o < 8 ∧ bb = nI (tn bb) ∧ tn bb < 3 := by
  unfold cJoin at h
  split at h
  · rename_i c
    rw [Bool.and_eq_true] at c
    split at h
    · rename_i d
      obtain ⟨e1, e2, -⟩ := mIsR_of c.1
      obtain ⟨e3, e4, -⟩ := mIsR_of c.2
      obtain ⟨e5, -, e6⟩ := inR_of d (by decide) (by decide)
      exact ⟨e1, e2, e3, e4, e5, by omega⟩
    · omega
  · omega
def jn (a b w : Nat) : Nat := if w = 0 then a ||| b else if w = 1 then a &&& b else a &&& (b ^^^ 4294967295)
def joF (S : mS) (r o w k : Nat) : Nat → Nat := fun z => if 40 * r ≤ z ∧ z < 40 * r + k then jn (mN S 21 z) (mN S 21 (40 * o + (z - 40 * r))) w else mN S 21 z
def joS (S : mS) (r o w k : Nat) : mS := sN (uK S 0 0) 21 (joF S r o w k)
theorem jo_init {S : mS} {r o w : Nat} : uK S 0 0 = joS S r o w 0 := by
  unfold joS
  apply sN_init
  intro z
  unfold joF
  rw [if_neg (by omega)]; rfl
theorem jo_r {S : mS} {r o w k a : Nat} (hk : k < 40) (h : a = r ∨ a = o) : mN (joS S r o w k) 21 (40 * a + k) = mN S 21 (40 * a + k) := by
  unfold joS
  rw [mN_sN, if_pos rfl]
  unfold joF
  rw [if_neg (by omega)]
theorem jo_step {S : mS} {r o w k : Nat} (hk : k < 40) : uN (joS S r o w k) 21 (40 * r + k) (jn (mN S 21 (40 * r + k)) (mN S 21 (40 * o + k)) w) = joS S r o w (k + 1) := by
  unfold joS
  rw [sN_step (g := joF S r o w (k + 1))]
  intro z
  unfold joF
  by_cases c : z = 40 * r + k
  · rw [if_pos c, if_pos (by omega), c, Nat.add_sub_cancel_left]
  · rw [if_neg c]
    by_cases d : 40 * r ≤ z ∧ z < 40 * r + k
    · rw [if_pos d, if_pos (by omega)]
    · rw [if_neg d, if_neg (by omega)]
theorem jn_lt {a b w : Nat} (ha : a < 512) (hb : b < 512) : jn a b w < 512 := by
  unfold jn
  split
  · exact or_lt (n := 9) ha hb
  · split
    · exact Nat.lt_of_le_of_lt Nat.and_le_left ha
    · exact Nat.lt_of_le_of_lt Nat.and_le_left ha
theorem len_lt {S : mS} (I : mInv S) {z : Nat} (hz : z < 320) : mN S 21 z < 512 := (I.2.2.2.2.2.2.2.2.2.2.2.2.2.1 z hz).1
theorem joF_lt {S : mS} (I : mInv S) {r o w z : Nat} (hr : r < 8) (ho : o < 8) (hz : z < 320) : joF S r o w 40 z < 512 := by
  unfold joF
  split
  · exact jn_lt (len_lt I hz) (len_lt I (by omega))
  · exact len_lt I hz
def tJoin (S : mS) (r o bb : Int32) : mS := if cJoin S r o bb = 0 then joS S (tn r) (tn o) (tn bb) 40 else uK S 0 (cJoin S r o bb)
def rJoin (S : mS) (r o bb : Int32) : Nat := if cJoin S r o bb = 0 then mSize (tJoin S r o bb) (tn r) else 0
/-- the highest bit from so many down -/
def hb (v : Nat) : Nat → Nat
  | 0 => 0
  | j + 1 => if v / 2 ^ (j + 1) % 2 = 1 then j + 1 else hb v j
theorem hb_le (v : Nat) : ∀ j, hb v j ≤ j
  | 0 => Nat.le_refl _
  | j + 1 => by
    rw [hb]
    split
    · exact Nat.le_refl _
    · exact Nat.le_succ_of_le (hb_le v j)
def thE (S : mS) (r : Nat) : Nat → Nat
  | 0 => 0
  | k + 1 => if 0 < hb (mN S 21 (40 * r + k)) 8 ∧ thE S r k ≤ k then k + hb (mN S 21 (40 * r + k)) 8 else thE S r k
theorem thE_le (S : mS) (r : Nat) : ∀ k, thE S r k ≤ k + 8
  | 0 => Nat.zero_le _
  | k + 1 => by
    rw [thE]
    have := thE_le S r k
    have := hb_le (mN S 21 (40 * r + k)) 8
    split <;> omega
def thV (S : mS) (r k : Nat) : Nat := if 0 < hb (mN S 21 (40 * r + k)) 8 ∧ thE S r k ≤ k then 2 ^ hb (mN S 21 (40 * r + k)) 8 else 0
def thF (S : mS) (r k : Nat) : Nat → Nat := fun z => if 40 * r ≤ z ∧ z < 40 * r + k then thV S r (z - 40 * r) else mN S 21 z
def thS (S : mS) (r k : Nat) : mS := sN (uK S 0 0) 21 (thF S r k)
theorem th_init {S : mS} {r : Nat} : uK S 0 0 = thS S r 0 := by
  unfold thS
  apply sN_init
  intro z
  unfold thF
  rw [if_neg (by omega)]; rfl
theorem th_r {S : mS} {r k : Nat} : mN (thS S r k) 21 (40 * r + k) = mN S 21 (40 * r + k) := by
  unfold thS
  rw [mN_sN, if_pos rfl]
  unfold thF
  rw [if_neg (by omega)]
theorem th_step {S : mS} {r k : Nat} : uN (thS S r k) 21 (40 * r + k) (thV S r k) = thS S r (k + 1) := by
  unfold thS
  rw [sN_step (g := thF S r (k + 1))]
  intro z
  unfold thF
  by_cases c : z = 40 * r + k
  · rw [if_pos c, if_pos (by omega), c, Nat.add_sub_cancel_left]
  · rw [if_neg c]
    by_cases d : 40 * r ≤ z ∧ z < 40 * r + k
    · rw [if_pos d, if_pos (by omega)]
    · rw [if_neg d, if_neg (by omega)]
theorem thF_lt {S : mS} (I : mInv S) {r z : Nat} (hz : z < 320) : thF S r 40 z < 512 := by
  unfold thF
  split
  · unfold thV
    split
    · exact Nat.lt_of_le_of_lt (Nat.pow_le_pow_right (n := 2) (by decide) (hb_le _ 8)) (by decide)
    · omega
  · exact len_lt I hz
def tThin (S : mS) (r : Int32) : mS := if mIsR S r = true then thS S (tn r) 40 else uK S 0 1
def rThin (S : mS) (r : Int32) : Nat := if mIsR S r = true then mSize (tThin S r) (tn r) else 0
/-- whether a sentence has an aligned one with a row of the pattern, among the first k places -/
def paB (S : mS) (s its j : Nat) : Bool := decide (mN S 7 (if s = 0 then its else mN S 3 (40 * (1 - s) + j)) / 2 ^ (if s = 0 then mN S 3 (40 * (1 - s) + j) else its) % 2 = 1)
def haF (S : mS) (s its pat : Nat) (j : Nat) : Bool := paB S s its j && decide (0 < mLong S pat (1 - s) j 1 false)
def haO (f : Nat → Bool) : Nat → Bool
  | 0 => false
  | k + 1 => haO f k || f k
theorem haO_mono {f : Nat → Bool} {k : Nat} (h : haO f k = true) : ∀ j, haO f (k + j) = true
  | 0 => h
  | j + 1 => by rw [← Nat.add_assoc, haO, haO_mono h j]; rfl
def mHas (S : mS) (s its pat : Nat) : Bool := haO (haF S s its pat) (mN S 1 (1 - s))

