/-- two states that the walks through patterns don't tell apart -/
def sameC (S T : mS) : Prop := (∀ i, mN S 1 i = mN T 1 i) ∧ (∀ i, mN S 2 i = mN T 2 i) ∧ (∀ i, mN S 3 i = mN T 3 i) ∧ (∀ i, mN S 4 i = mN T 4 i) ∧ (∀ i, mN S 8 i = mN T 8 i) ∧ (∀ i, mN S 12 i = mN T 12 i) ∧ (∀ i, mN S 13 i = mN T 13 i) ∧ (∀ i, mN S 14 i = mN T 14 i) ∧ (∀ i, mB S 10 i = mB T 10 i) ∧ (∀ i, mI S 11 i = mI T 11 i)
theorem mVal_c {S T : mS} (h : sameC S T) (s p a : Nat) : mVal S s p a = mVal T s p a := h.2.1 _
theorem tMat_c {S T : mS} (h : sameC S T) : tMat S = tMat T := by
  funext t s p lab
  unfold tMat
  have e : tF S t s p lab = tF T t s p lab := by
    funext k
    unfold tF tA
    rw [mVal_c h, h.2.2.2.2.2.2.2.2.2, h.2.2.2.2.2.1]
    have e2 : tC S t s p lab k = tC T t s p lab k := by
      funext z
      unfold tC
      rw [mVal_c h, mVal_c h, h.2.2.2.2.2.2.2.1]
    rw [e2]
  rw [e]
theorem goA_c {S T : mS} (h : sameC S T) : goA S = goA T := by
  funext pat way s fr e k
  unfold goA
  rw [tMat_c h]
  congr 1
  funext j
  exact h.2.2.2.2.2.2.1 _
theorem goN_c {S T : mS} (h : sameC S T) : goN S = goN T := by
  funext pat way s fr e
  unfold goN
  rw [goA_c h, h.2.2.2.2.1]
theorem inB_c {S T : mS} (h : sameC S T) : inB S = inB T := by
  funext s p bd e
  unfold inB
  rw [h.2.2.1, h.2.2.1, h.2.2.2.1, h.2.2.2.1]
theorem eGo_c {S T : mS} (h : sameC S T) (s p bd : Nat) : ∀ f e, eGo S s p bd f e = eGo T s p bd f e
  | 0, _ => rfl
  | f + 1, e => by rw [eGo, eGo, inB_c h, h.1, eGo_c h s p bd f]
theorem mLong_c {S T : mS} (h : sameC S T) (pat s p bd : Nat) (L : Bool) : mLong S pat s p bd L = mLong T pat s p bd L := by
  unfold mLong mLoW eOf
  rw [goN_c h, eGo_c h, h.2.2.2.2.1]
  congr 1
  funext w
  exact h.2.2.2.2.2.2.2.2.1 _
theorem mLong_le {S : mS} (C : mCore S) {pat s p bd : Nat} {L : Bool} (hp : pat < 21) : mLong S pat s p bd L ≤ 8 := Nat.le_trans (mLoW_le _) (C.2.2.2.2.2.1 pat hp)
def mIsP (S : mS) (v : Int32) : Bool := inI v (nI 0) (nI (mK S 15) - nI 1)
def cRun (S : mS) (r pat side bd : Int32) : Nat := if (mIsP S pat && inR side 0 1) = true then (if (inR r 0 7 && inR bd 0 2) = true then 0 else 2) else 1
theorem cRun_0 {S : mS} (I : mInv S) {r pat side bd : Int32} (h : cRun S r pat side bd = 0) : pat = nI (tn pat) ∧ tn pat < mK S 15 ∧ side = nI (tn side) ∧ tn side < 2 ∧ r = nI (tn r) ∧ tn r < 8 ∧ bd = nI (tn bd) ∧ tn bd < 3 := by
  unfold cRun at h
  split at h
  · rename_i c
    split at h
    · rename_i d
      rw [Bool.and_eq_true] at c d
      have i1 := pats_le I
      obtain ⟨e1, e2⟩ := inI_of (by omega) c.1
      obtain ⟨e3, -, e4⟩ := inR_of c.2 (by decide) (by decide)
      obtain ⟨e5, -, e6⟩ := inR_of d.1 (by decide) (by decide)
      obtain ⟨e7, -, e8⟩ := inR_of d.2 (by decide) (by decide)
      exact ⟨e1, e2, e3, by omega, e5, by omega, e7, by omega⟩
    · omega
  · omega
def lenX (S : mS) (pat s bd : Nat) (L : Bool) (k : Nat) : Nat := if k < mN S 1 s then mLong S pat s k bd L else 0
def bitX (x : Nat) : Nat := if x = 0 then 0 else 2 ^ x
def ruF (S : mS) (r pat s bd : Nat) (L : Bool) (k : Nat) : Nat → Nat := fun z => if 40 * r ≤ z ∧ z < 40 * r + k then bitX (lenX S pat s bd L (z - 40 * r)) else mN S 21 z
def ruS (S : mS) (r pat s bd : Nat) (L : Bool) (k : Nat) : mS := sN (uI (uK S 0 0) 20 r (nI s)) 21 (ruF S r pat s bd L k)
theorem ru_init {S : mS} {r pat s bd : Nat} {L : Bool} : uI (uK S 0 0) 20 r (nI s) = sI (ruS S r pat s bd L 0) 19 (fun z => mI S 19 z) := by
  unfold ruS
  rw [← sN_init (S := uI (uK S 0 0) 20 r (nI s)) (k := 21)]
  · apply sI_init
    intro z; rfl
  · intro z
    unfold ruF
    rw [if_neg (by omega)]; rfl
theorem ru_step {S : mS} {r pat s bd k : Nat} {L : Bool} {g : Nat → Int32} : uN (sI (ruS S r pat s bd L k) 19 g) 21 (40 * r + k) (bitX (lenX S pat s bd L k)) = sI (ruS S r pat s bd L (k + 1)) 19 g := by
  rw [uN_sI]
  unfold ruS
  rw [sN_step (g := ruF S r pat s bd L (k + 1))]
  intro z
  unfold ruF
  by_cases c : z = 40 * r + k
  · rw [if_pos c, if_pos (by omega), c, Nat.add_sub_cancel_left]
  · rw [if_neg c]
    by_cases d : 40 * r ≤ z ∧ z < 40 * r + k
    · rw [if_pos d, if_pos (by omega)]
    · rw [if_neg d, if_neg (by omega)]
theorem bitX_lt {x : Nat} (h : x ≤ 8) : bitX x < 512 := by
  unfold bitX
  split
  · omega
  · exact Nat.lt_of_le_of_lt (Nat.pow_le_pow_right (n := 2) (by decide) h) (by decide)
theorem ruF_lt {S : mS} (I : mInv S) {r pat s bd k : Nat} {L : Bool} (hp : pat < 21) {z : Nat} (hz : z < 320) : ruF S r pat s bd L k z < 512 := by
  unfold ruF
  split
  · apply bitX_lt
    unfold lenX
    split
    · exact mLong_le I.core hp
    · omega
  · exact (I.2.2.2.2.2.2.2.2.2.2.2.2.2.1 z hz).1
def tRun (S : mS) (r pat side bd : Int32) (L : Bool) : mS := if cRun S r pat side bd = 0 then ruS S (tn r) (tn pat) (tn side) (tn bd) L 40 else uK S 0 (cRun S r pat side bd)
def rRun (S : mS) (r pat side bd : Int32) (L : Bool) : Nat := if cRun S r pat side bd = 0 then mSize (tRun S r pat side bd L) (tn r) else 0
def cWalk (S : mS) (pat side bd : Int32) : Nat := if (mIsP S pat && inR side 0 1) = true then (if inR bd 0 2 = true then 0 else 2) else 1
theorem cWalk_0 {S : mS} (I : mInv S) {pat side bd : Int32} (h : cWalk S pat side bd = 0) : pat = nI (tn pat) ∧ tn pat < mK S 15 ∧ side = nI (tn side) ∧ tn side < 2 ∧ bd = nI (tn bd) ∧ tn bd < 3 := by
  unfold cWalk at h
  split at h
  · rename_i c
    split at h
    · rename_i d
      rw [Bool.and_eq_true] at c
      have i1 := pats_le I
      obtain ⟨e1, e2⟩ := inI_of (by omega) c.1
      obtain ⟨e3, -, e4⟩ := inR_of c.2 (by decide) (by decide)
      obtain ⟨e7, -, e8⟩ := inR_of d (by decide) (by decide)
      exact ⟨e1, e2, e3, by omega, e7, by omega⟩
    · omega
  · omega
def nWalk (S : mS) (pat s bd : Nat) (L : Bool) (k : Nat) : Nat := sumTo (fun j => if 0 < mLong S pat s j bd L then 1 else 0) k
def sWalk (S : mS) (pat s bd : Nat) (L : Bool) (k : Nat) : Nat := sumTo (fun j => mLong S pat s j bd L) k
def rWalk (S : mS) (pat side bd : Int32) (L : Bool) : Nat := if cWalk S pat side bd = 0 then 100 * nWalk S (tn pat) (tn side) (tn bd) L (mN S 1 (tn side)) + sWalk S (tn pat) (tn side) (tn bd) L (mN S 1 (tn side)) % 100 else 0

