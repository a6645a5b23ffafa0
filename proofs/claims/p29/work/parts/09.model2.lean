/-- what holds of the reference's rows between calls -/
def mInv (S : mS) : Prop :=
  (∀ s, s < 2 → mN S 1 s ≤ 40) ∧ (∀ i, i < 240 → mN S 2 i < 100) ∧ (∀ i, i < 80 → mN S 3 i ≤ i % 40) ∧ (∀ i, i < 80 → mN S 4 i ≤ i % 40) ∧
  (∀ i, i < 40 → mN S 7 i < 1099511627776) ∧ (∀ p, p < 21 → mN S 8 p ≤ 8) ∧ (∀ i, i < 1008 → mN S 12 i < 1125899906842624) ∧ (∀ i, i < 168 → mN S 13 i < 8) ∧ (∀ i, i < 168 → mN S 14 i < 512) ∧
  mK S 15 ≤ 12 ∧ mK S 16 ≤ 8 ∧ mTests S ≤ 8 ∧ (∀ r, r < 8 → mI S 20 r = -1 ∨ mI S 20 r = nI 0 ∨ mI S 20 r = nI 1) ∧
  (∀ i, i < 320 → mN S 21 i < 512 ∧ mN S 21 i % 2 = 0) ∧
  (∀ r s, r < 8 → s < 2 → mI S 20 r = nI s → ∀ k, k < 40 → ∀ z, z < 9 → mN S 21 (40 * r + k) / 2 ^ z % 2 = 1 → k + z ≤ mN S 1 s) ∧
  (∀ p, p < mK S 15 ∨ 12 ≤ p ∧ p < 12 + mK S 16 → 1 ≤ mN S 8 p ∧ (∀ w, w < 256 → mB S 10 (256 * p + w) = true → w < 2 ^ mN S 8 p) ∧ (mB S 9 p = true → mN S 8 p = 1 ∧ ∀ w, w < 256 → mB S 10 (256 * p + w) = decide (w = 1)))
def mSents (S : mS) (s : Nat) : Nat := if mN S 1 s = 0 then 0 else mN S 3 (40 * s + mN S 1 s - 1) + 1
def mIsR (S : mS) (v : Int32) : Bool := inR v 0 7 && !decide (mI S 20 (tn v) = -1)

