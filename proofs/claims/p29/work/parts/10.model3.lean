def cSide (side : Int32) : Nat := if inR side 0 1 = true then 0 else 1
def rTokens (S : mS) (side : Int32) : Nat := if inR side 0 1 = true then mN S 1 (tn side) else 0
def cOccurs (side attr : Int32) : Nat := if inR side 0 1 = true then (if inR attr 0 2 = true then 0 else 2) else 1
theorem cOccurs_0 {side attr : Int32} (h : cOccurs side attr = 0) : inR side 0 1 = true ∧ inR attr 0 2 = true := by
  unfold cOccurs at h
  split at h
  · split at h
    · exact ⟨by assumption, by assumption⟩
    · omega
  · omega
def nOccurs (S : mS) (s a : Nat) (value : Int32) (k : Nat) : Nat := sumTo (fun p => if nI (mVal S s p a) = value then 1 else 0) k
def rOccurs (S : mS) (side attr value : Int32) : Nat := if cOccurs side attr = 0 then nOccurs S (tn side) (tn attr) value (mN S 1 (tn side)) else 0
def cEnd (S : mS) (side : Int32) : Nat := if inR side 0 1 = true then (if mN S 1 (tn side) = 0 then 2 else 0) else 1
theorem cEnd_0 {S : mS} {side : Int32} (h : cEnd S side = 0) : inR side 0 1 = true ∧ mN S 1 (tn side) ≠ 0 := by
  unfold cEnd at h
  split at h
  · split at h
    · omega
    · exact ⟨by assumption, by assumption⟩
  · omega
def rEnd (S : mS) (side : Int32) : Nat := if cEnd S side = 0 then mN S 1 (tn side) else 0
def tEnd (S : mS) (side : Int32) (t : Bool) : mS := if cEnd S side = 0 then uB (uB (uK S 0 0) 5 (tn side) true) 6 (tn side) (mB S 6 (tn side) || t) else uK S 0 (cEnd S side)
def cSent (S : mS) (side place : Int32) : Nat := if (inR side 0 1 && inI place (nI 0) (nI (mN S 1 (tn side)) - nI 1)) = true then 0 else 1
def rSent (S : mS) (side place : Int32) : Nat := if cSent S side place = 0 then mN S 3 (40 * tn side + tn place) else 0
/-- an index below a bound, as the reference asks for it -/
theorem inI_of {v : Int32} {m : Nat} (hm : m ≤ 1000) (h : inI v (nI 0) (nI m - nI 1) = true) : v = nI (tn v) ∧ tn v < m := by
  rcases Nat.eq_zero_or_pos m with rfl | h1
  · have : inI v (nI 0) (nI 0 - nI 1) = false := by
      cases hc : inI v (nI 0) (nI 0 - nI 1) with
      | false => rfl
      | true =>
        simp only [inI, Bool.and_eq_true, decide_eq_true_eq, Int32.le_iff_toInt_le] at hc
        have e1 : (nI 0 - nI 1).toInt = -1 := by decide
        have e2 : (nI 0).toInt = 0 := by decide
        omega
    rw [this] at h; cases h
  · rw [pk_sub h1] at h
    obtain ⟨e, -, l⟩ := inR_of (v := v) (a := 0) (b := m - 1) h (by omega) (by omega)
    exact ⟨e, by omega⟩
def cWR (S : mS) (r : Int32) : Nat := if mIsR S r = true then 0 else 1
theorem mIsR_of {S : mS} {r : Int32} (h : mIsR S r = true) : r = nI (tn r) ∧ tn r < 8 ∧ mI S 20 (tn r) ≠ -1 := by
  simp only [mIsR, Bool.and_eq_true, Bool.not_eq_true', decide_eq_false_iff_not] at h
  obtain ⟨e, -, l⟩ := inR_of h.1 (by omega) (by omega)
  exact ⟨e, by omega, h.2⟩
def rDrop (S : mS) (r : Int32) : Nat := if mIsR S r = true then mSize S (tn r) else 0
def tDrop (S : mS) (r : Int32) : mS := if mIsR S r = true then uI (uK S 0 0) 20 (tn r) (-1) else uK S 0 1
def rSz (S : mS) (r : Int32) : Int32 := if mIsR S r = true then nI (mSize S (tn r)) else -1
def cToken (S : mS) (side word kind root : Int32) : Nat := if inR side 0 1 = true then (if (inR word 0 99 && inR kind 0 9 && inR root 0 49) = true then (if mN S 1 (tn side) = 40 then 3 else 0) else 2) else 1
theorem cToken_0 {S : mS} {side word kind root : Int32} (h : cToken S side word kind root = 0) : inR side 0 1 = true ∧ inR word 0 99 = true ∧ inR kind 0 9 = true ∧ inR root 0 49 = true ∧ mN S 1 (tn side) ≠ 40 := by
  unfold cToken at h
  split at h
  · split at h
    · rename_i h2
      simp only [Bool.and_eq_true] at h2
      split at h
      · omega
      · exact ⟨by assumption, h2.1.1, h2.1.2, h2.2, by assumption⟩
    · omega
  · omega
def rToken (S : mS) (side word kind root : Int32) : Nat := if cToken S side word kind root = 0 then mN S 1 (tn side) else 0
def tToken (S : mS) (side word kind root : Int32) : mS :=
  if cToken S side word kind root = 0 then
    let s := tn side
    let at_ := 40 * s + mN S 1 s
    uN (uB (uB (uN (uN (uN (uN (uN (uK S 0 0) 2 (3 * at_ + 0) (tn word)) 2 (3 * at_ + 1) (tn kind)) 2 (3 * at_ + 2) (tn root))
      3 at_ (if mN S 1 s = 0 then 0 else mN S 3 (at_ - 1) + (mB S 5 s).toNat)) 4 at_ (if mN S 1 s = 0 then 0 else mN S 4 (at_ - 1) + (mB S 6 s).toNat)) 5 s false) 6 s false) 1 s (mN S 1 s + 1)
  else uK S 0 (cToken S side word kind root)
def cAlign (S : mS) (a b : Int32) : Nat := if (inI a (nI 0) (nI (mSents S 0) - nI 1) && inI b (nI 0) (nI (mSents S 1) - nI 1)) = true then 0 else 1
def nPairs (S : mS) (k : Nat) : Nat := sumTo (fun k => mN S 7 (k / 40) / 2 ^ (k % 40) % 2) k
def tAlign (S : mS) (a b : Int32) : mS := if cAlign S a b = 0 then uN (uK S 0 0) 7 (tn a) (mN S 7 (tn a) ||| 2 ^ tn b) else uK S 0 1
def rAlign (S : mS) (a b : Int32) : Nat := if cAlign S a b = 0 then nPairs (tAlign S a b) 1600 else 0
theorem mSents_le {S : mS} (I : mInv S) {s : Nat} (hs : s < 2) : mSents S s ≤ 40 := by
  unfold mSents
  split
  · omega
  · have h1 := I.1 s hs
    have h2 := I.2.2.1 (40 * s + mN S 1 s - 1) (by omega)
    omega
theorem mInv_uK0 {S : mS} {c : Nat} (I : mInv S) : mInv (uK S 0 c) := I
theorem or_lt {a b n : Nat} (ha : a < 2 ^ n) (hb : b < 2 ^ n) : a ||| b < 2 ^ n := Nat.or_lt_two_pow ha hb
theorem tAlign_lt {S : mS} {a b : Int32} (I : mInv S) (i : Nat) (hi : i < 40) : mN (tAlign S a b) 7 i < 1099511627776 := by
  unfold tAlign
  split
  · rename_i h
    have c1 : (inI a (nI 0) (nI (mSents S 0) - nI 1) && inI b (nI 0) (nI (mSents S 1) - nI 1)) = true := by
      unfold cAlign at h; split at h <;> first | assumption | omega
    rw [Bool.and_eq_true] at c1
    have i1 := mSents_le I (show 0 < 2 by decide)
    have i2 := mSents_le I (show 1 < 2 by decide)
    obtain ⟨e1, e2⟩ := inI_of (by omega) c1.1
    obtain ⟨e3, e4⟩ := inI_of (by omega) c1.2
    have h7 := I.2.2.2.2.1
    rw [mN_uN]
    split
    · have := h7 (tn a) (by omega)
      exact or_lt (n := 40) this (Nat.pow_lt_pow_right (by decide) (by omega))
    · exact h7 i hi
  · exact I.2.2.2.2.1 i hi

