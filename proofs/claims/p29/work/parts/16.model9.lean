/-- what the walks through patterns need -/
def mCore (S : mS) : Prop :=
  (∀ s, s < 2 → mN S 1 s ≤ 40) ∧ (∀ i, i < 240 → mN S 2 i < 100) ∧ (∀ i, i < 80 → mN S 3 i ≤ i % 40) ∧ (∀ i, i < 80 → mN S 4 i ≤ i % 40) ∧
  (∀ i, i < 40 → mN S 7 i < 1099511627776) ∧ (∀ p, p < 21 → mN S 8 p ≤ 8) ∧ (∀ i, i < 1008 → mN S 12 i < 1125899906842624) ∧ (∀ i, i < 168 → mN S 13 i < 8) ∧ (∀ i, i < 168 → mN S 14 i < 512) ∧ True
theorem mInv.core {S : mS} (I : mInv S) : mCore S := ⟨I.1, I.2.1, I.2.2.1, I.2.2.2.1, I.2.2.2.2.1, I.2.2.2.2.2.1, I.2.2.2.2.2.2.1, I.2.2.2.2.2.2.2.1, I.2.2.2.2.2.2.2.2.1, trivial⟩
def allTo (f : Nat → Bool) : Nat → Bool
  | 0 => true
  | k + 1 => allTo f k && f k
/-- a label, as the reference keeps it: none is -1 -/
def labI (x : Nat) : Int32 := nI x - nI 1
theorem labI_m1 {x : Nat} (hx : x ≤ 1000) : labI x = -1 ↔ x = 0 := by
  constructor
  · intro h
    rcases Nat.eq_zero_or_pos x with q | q
    · exact q
    · rw [labI, pk_sub q] at h
      have h1 : (nI (x - 1)).toInt = (-1 : Int32).toInt := by rw [h]
      rw [nI_toInt (by omega)] at h1
      have h2 : (-1 : Int32).toInt = -1 := rfl
      omega
  · intro h; subst h; decide
theorem labI_p {x : Nat} (hx : 0 < x) : labI x = nI (x - 1) := pk_sub hx
theorem labI_0 : labI 0 = -1 := by decide
theorem lcmp_0 {a b : Nat} (ha : a < 9223372036854775808) (hb : b < 9223372036854775808) : lg_cmp (lN a) (lN b) = 0 ↔ a = b := by
  rw [lN_cmp ha hb]
  by_cases h : a = b
  · rw [if_pos h]; exact ⟨fun _ => h, fun _ => rfl⟩
  · rw [if_neg h]
    constructor
    · intro q
      split at q
      · exact absurd q (by decide)
      · exact absurd q (by decide)
    · intro q; exact absurd q h
def tA (S : mS) (t s p k : Nat) : Bool := (decide (mI S 11 (3 * t + k) = -1) || decide (mI S 11 (3 * t + k) = nI (mVal S s p k))) && decide (mN S 12 (6 * t + 2 * k + mVal S s p k / 50) / 2 ^ (mVal S s p k % 50) % 2 = 0)
def tC (S : mS) (t s p : Nat) (lab : Nat → Nat) (k z : Nat) : Bool := !decide (mN S 14 t / 2 ^ (3 * z + k) % 2 = 1) || (!decide (lab z = 0) && decide (mVal S s (lab z - 1) k = mVal S s p k))
def tF (S : mS) (t s p : Nat) (lab : Nat → Nat) (k : Nat) : Bool := tA S t s p k && allTo (tC S t s p lab k) 3
def tMat (S : mS) (t s p : Nat) (lab : Nat → Nat) : Bool := allTo (tF S t s p lab) 3
theorem sI_sI {S : mS} {k : Nat} {f g : Nat → Int32} : sI (sI S k f) k g = sI S k g := by
  apply mS_ext
  · intro j; rfl
  · intro j z; rfl
  · intro j z; rfl
  · intro j z
    simp only [mI_sI]
    split <;> rfl
/-- a way through so many tests: the place then, and the labels; none if it can't be gone -/
def goS (M : Nat → Nat → (Nat → Nat) → Bool) (st : Nat → Nat) (way fr e : Nat) : Nat → Option (Nat × (Nat → Nat))
  | 0 => some (fr, fun _ => 0)
  | k + 1 => match goS M st way fr e k with
    | none => none
    | some (pl, lab) => if way / 2 ^ k % 2 = 1 then (if pl = e ∨ M k pl lab = false then none else some (pl + 1, fun z => if st k / 2 ^ z % 2 = 1 then pl + 1 else lab z)) else some (pl, lab)
def goA (S : mS) (pat way s fr e : Nat) (k : Nat) : Option (Nat × (Nat → Nat)) := goS (fun k pl lab => tMat S (8 * pat + k) s pl lab) (fun k => mN S 13 (8 * pat + k)) way fr e k
def goN (S : mS) (pat way s fr e : Nat) : Nat := match goA S pat way s fr e (mN S 8 pat) with
  | none => 0
  | some (pl, _) => pl - fr
def goI (S : mS) (pat way s fr e : Nat) : Int32 := match goA S pat way s fr e (mN S 8 pat) with
  | none => -1
  | some (pl, _) => nI (pl - fr)
theorem goS_mono {M : Nat → Nat → (Nat → Nat) → Bool} {st : Nat → Nat} {way fr e : Nat} {k : Nat} (h : goS M st way fr e k = none) : ∀ j, goS M st way fr e (k + j) = none
  | 0 => h
  | j + 1 => by
    show goS M st way fr e (k + j + 1) = none
    rw [goS, goS_mono h j]
theorem goS_fail {M : Nat → Nat → (Nat → Nat) → Bool} {st : Nat → Nat} {way fr e : Nat} {k m : Nat} (h : goS M st way fr e (k + 1) = none) (hk : k < m) : goS M st way fr e m = none := by
  have := goS_mono h (m - (k + 1))
  rwa [show k + 1 + (m - (k + 1)) = m by omega] at this
/-- the place behind a bound -/
def inB (S : mS) (s p bd e : Nat) : Bool := decide (bd = 0) || (if bd = 1 then decide (mN S 3 (40 * s + e) = mN S 3 (40 * s + p)) else decide (mN S 4 (40 * s + e) = mN S 4 (40 * s + p)))
def eGo (S : mS) (s p bd : Nat) : Nat → Nat → Nat
  | 0, e => e
  | f + 1, e => if e < mN S 1 s ∧ inB S s p bd e = true then eGo S s p bd f (e + 1) else e
def eOf (S : mS) (s p bd : Nat) : Nat := eGo S s p bd 41 (p + 1)
theorem eGo_le {S : mS} {s p bd : Nat} : ∀ (f e : Nat), e ≤ mN S 1 s → eGo S s p bd f e ≤ mN S 1 s
  | 0, _, h => h
  | f + 1, e, h => by
    rw [eGo]
    split
    · exact eGo_le f (e + 1) (by omega)
    · exact h
theorem eGo_ge {S : mS} {s p bd : Nat} : ∀ (f e : Nat), e ≤ eGo S s p bd f e
  | 0, _ => Nat.le_refl _
  | f + 1, e => by
    rw [eGo]
    split
    · exact Nat.le_trans (Nat.le_succ e) (eGo_ge f (e + 1))
    · exact Nat.le_refl _
def loS (W : Nat → Bool) (g : Nat → Nat) (L : Bool) : Nat → Nat
  | 0 => 0
  | w + 1 => if w ≠ 0 ∧ W w = true ∧ 0 < g w ∧ (loS W g L w = 0 ∨ (if L = true then loS W g L w < g w else g w < loS W g L w)) then g w else loS W g L w
def mLoW (S : mS) (pat s p bd : Nat) (L : Bool) (w : Nat) : Nat := loS (fun w => mB S 10 (256 * pat + w)) (fun w => goN S pat w s p (eOf S s p bd)) L w
def mLong (S : mS) (pat s p bd : Nat) (L : Bool) : Nat := mLoW S pat s p bd L (2 ^ mN S 8 pat)

