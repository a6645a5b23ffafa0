def rpG (b m k : Nat) : Nat → Nat := fun t => if b + m ≤ t ∧ t < k then b + (t - b) % m else t
theorem rpG_succ (S : mS) {b m k : Nat} (hm : 0 < m) (hk : b + m ≤ k) : tmap (tmap S (rpG b m k)) (cpG (k - m) k) = tmap S (rpG b m (k + 1)) := by
  rw [tmap_tmap]
  apply tmap_congr
  intro t
  unfold rpG cpG
  by_cases c : t = k
  · subst c
    rw [if_pos rfl, if_pos (show b + m ≤ t ∧ t < t + 1 by omega)]
    have e : (t - b) % m = (t - m - b) % m := by
      rw [show t - b = (t - m - b) + m by omega, Nat.add_mod_right]
    by_cases d : b + m ≤ t - m ∧ t - m < t
    · rw [if_pos d, e]
    · rw [if_neg d, e, Nat.mod_eq_of_lt (by omega)]; omega
  · rw [if_neg c]
    by_cases d : b + m ≤ t ∧ t < k
    · rw [if_pos d, if_pos (by omega)]
    · rw [if_neg d, if_neg (by omega)]
/-- the ways of so many times a part one behind the other; the ways of a repeat -/
def nxW (W : Nat → Bool) (m : Nat) : Nat → Nat → Bool
  | 0, z => decide (z = 0)
  | t + 1, z => nxW W m t (z % 2 ^ (m * t)) && W (z / 2 ^ (m * t))
def thW (W : Nat → Bool) (m least : Nat) : Nat → Nat → Bool
  | 0, z => decide (z = 0) && decide (least = 0)
  | t + 1, z => thW W m least t z || (decide (least ≤ t + 1) && nxW W m (t + 1) z)
/-- the two rows as they stand: next done from j on, then done below i -/
def rpS (S : mS) (f g : Nat → Bool) : mS := sB (sB S 18 f) 17 g
theorem rpS_18 {S : mS} {f g : Nat → Bool} {z : Nat} : mB (rpS S f g) 18 z = f z := rfl
theorem rpS_17 {S : mS} {f g : Nat → Bool} {z : Nat} : mB (rpS S f g) 17 z = g z := rfl
theorem rpS_u18 {S : mS} {f g h : Nat → Bool} {i : Nat} {v : Bool} (hh : ∀ z, (if z = i then v else f z) = h z) : uB (rpS S f g) 18 i v = rpS S h g := by
  unfold rpS
  apply mS_ext
  · intro j; rfl
  · intro j z; rfl
  · intro j z
    simp only [mB_uB, mB_sB, ← hh]
    by_cases e : j = 18
    · subst e; by_cases e2 : z = i <;> simp [e2]
    · simp [e]
  · intro j z; rfl
theorem rpS_u17 {S : mS} {f g h : Nat → Bool} {i : Nat} {v : Bool} (hh : ∀ z, (if z = i then v else g z) = h z) : uB (rpS S f g) 17 i v = rpS S f h := by
  unfold rpS
  rw [sB_step hh]
theorem rpS_init (S : mS) : S = rpS S (fun z => mB S 18 z) (fun z => mB S 17 z) := by
  unfold rpS
  rw [← sB_init (S := S)]
  · apply sB_init
    intro z; rfl
  · intro z; rfl
def canR (S : mS) (most : Int32) : Bool := decide (0 < mK S 16) && decide (nI (mTests S) + (most - nI 1) * nI (mN S 8 (12 + mK S 16 - 1)) ≤ nI 8)
def areR (least most : Int32) : Bool := inR least 0 3 && (inR most 1 3 && decide (least ≤ most))
def cRep (S : mS) (least most : Int32) : Nat := if areR least most = true then (if canR S most = true then 0 else 2) else 1
/-- the row 'next' behind so many times, the row 'then' behind so many times -/
def fT (S : mS) (p t : Nat) : Nat → Bool := fun z => if z < 256 then nxW (fun z => mB S 10 (256 * p + z)) (mN S 8 p) t z else mB S 18 z
def gT (S : mS) (p l t : Nat) : Nat → Bool := fun z => if z < 256 then thW (fun z => mB S 10 (256 * p + z)) (mN S 8 p) l t z else mB S 17 z
def rpT (S : mS) (p m : Nat) : mS := tmap (uK S 0 0) (rpG (8 * p) (mN S 8 p) (8 * p + mN S 8 p * m))
def tRep (S : mS) (least most : Int32) : mS :=
  if cRep S least most = 0 then tBec (rpS (rpT S (12 + mK S 16 - 1) (tn most)) (fT S (12 + mK S 16 - 1) (tn most)) (gT S (12 + mK S 16 - 1) (tn least) (tn most))) (12 + mK S 16 - 1) (mN S 8 (12 + mK S 16 - 1) * tn most)
  else uK S 0 (cRep S least most)
def rRep (S : mS) (least most : Int32) : Nat := if cRep S least most = 0 then mTests (tRep S least most) else 0
theorem rpG_0 (S : mS) (b m : Nat) : S = tmap S (rpG b m (b + m)) := tmap_id S (fun t => by unfold rpG; rw [if_neg (by omega)])
theorem sumTo_part {f : Nat → Nat} {j : Nat} : ∀ {k : Nat}, j < k → f j ≤ sumTo f k
  | 0, h => absurd h (Nat.not_lt_zero _)
  | k + 1, h => by
    rw [sumTo]
    rcases Nat.lt_or_ge j k with q | q
    · have := sumTo_part (f := f) (j := j) (k := k) q; omega
    · have : j = k := by omega
      subst this; omega
theorem part_le {S : mS} (h : 0 < mK S 16) : mN S 8 (12 + mK S 16 - 1) ≤ mTests S := by
  have := sumTo_part (f := fun k => mN S 8 (12 + k)) (j := mK S 16 - 1) (k := mK S 16) (by omega)
  rw [show 12 + mK S 16 - 1 = 12 + (mK S 16 - 1) by omega]
  exact this
theorem areR_of {l m : Int32} (h : areR l m = true) : l = nI (tn l) ∧ m = nI (tn m) ∧ tn l ≤ tn m ∧ 1 ≤ tn m ∧ tn m ≤ 3 := by
  simp only [areR, Bool.and_eq_true, decide_eq_true_eq] at h
  obtain ⟨h1, h2, h3⟩ := h
  obtain ⟨e1, -, e2⟩ := inR_of h1 (by decide) (by decide)
  obtain ⟨e3, e4, e5⟩ := inR_of h2 (by decide) (by decide)
  rw [e1, e3] at h3
  exact ⟨e1, e3, (nI_leI (by omega) (by omega)).mp h3, e4, e5⟩
theorem cRep_0 {S : mS} (I : mInv S) {l m : Int32} (h : cRep S l m = 0) : l = nI (tn l) ∧ m = nI (tn m) ∧ tn l ≤ tn m ∧ 1 ≤ tn m ∧ tn m ≤ 3 ∧ 0 < mK S 16 ∧ 0 < mN S 8 (12 + mK S 16 - 1) ∧ mN S 8 (12 + mK S 16 - 1) * tn m ≤ 8 ∧ mTests S + (tn m - 1) * mN S 8 (12 + mK S 16 - 1) ≤ 8 := by
  unfold cRep at h
  split at h
  · rename_i ha
    split at h
    · rename_i hc
      obtain ⟨e1, e2, e3, e4, e5⟩ := areR_of ha
      simp only [canR, Bool.and_eq_true, decide_eq_true_eq] at hc
      obtain ⟨h1, h2⟩ := hc
      have i1 := pile_le I
      have i2 := mTests_le I
      have i3 := part_le h1
      have i4 := (I.2.2.2.2.2.2.2.2.2.2.2.2.2.2.2 (12 + mK S 16 - 1) (by omega)).1
      rw [e2, pk_sub e4, pk_mul, nI_add] at h2
      have hq : (tn m - 1) * mN S 8 (12 + mK S 16 - 1) ≤ 2 * 8 := Nat.mul_le_mul (by omega) (by omega)
      have h3 := (nI_leI (by omega) (by omega)).mp h2
      refine ⟨e1, e2, e3, e4, e5, h1, by omega, ?_, h3⟩
      obtain ⟨z, hz⟩ : ∃ z, tn m = z + 1 := ⟨tn m - 1, by omega⟩
      rw [hz, Nat.add_sub_cancel, Nat.mul_comm] at h3
      rw [hz, Nat.mul_succ]
      omega
    · omega
  · omega
theorem pow_256 {a : Nat} (h : a ≤ 8) : 0 < 2 ^ a ∧ 2 ^ a ≤ 256 := ⟨Nat.two_pow_pos a, Nat.pow_le_pow_right (n := 2) (by decide) h⟩
theorem nI_neg1 {j : Nat} (hj : j ≤ 256) : nI j - nI 1 < 0 ↔ j = 0 := by
  constructor
  · intro h
    rcases Nat.eq_zero_or_pos j with q | q
    · exact q
    · rw [pk_sub q] at h
      exact absurd h (nI_pos (by omega))
  · intro h; subst h; decide
def iA (S : mS) (l k : Nat) (o : Nat) : Nat → Bool := fun z => if z < k then (decide (z = 0) && (decide (o = 0) || decide (l = 0))) else mB S (18 - o) z
def fJ (S : mS) (p t j : Nat) : Nat → Bool := fun z => if z < j then fT S p t z else fT S p (t + 1) z
def gJ (S : mS) (p l t k : Nat) : Nat → Bool := fun z => if z < k then gT S p l (t + 1) z else gT S p l t z
theorem iA_f (S : mS) (p l : Nat) : iA S l 256 0 = fT S p 0 := by
  funext z; unfold iA fT nxW; simp
theorem iA_g (S : mS) (p l : Nat) : iA S l 256 1 = gT S p l 0 := by
  funext z; unfold iA gT thW; simp
theorem iA_step {S : mS} {l k o : Nat} (z : Nat) : (if z = k then (decide (k = 0) && (decide (o = 0) || decide (l = 0))) else iA S l k o z) = iA S l (k + 1) o z := by
  unfold iA
  by_cases c : z = k
  · rw [if_pos c, if_pos (by omega), c]
  · rw [if_neg c]
    by_cases d : z < k
    · rw [if_pos d, if_pos (by omega)]
    · rw [if_neg d, if_neg (by omega)]
theorem fJ_256 (S : mS) (p t : Nat) : fT S p t = fJ S p t 256 := by
  funext z; unfold fJ
  by_cases c : z < 256
  · rw [if_pos c]
  · rw [if_neg c]; unfold fT; rw [if_neg c, if_neg c]
theorem fJ_0 (S : mS) (p t : Nat) : fJ S p t 0 = fT S p (t + 1) := by
  funext z; unfold fJ; rw [if_neg (by omega)]
theorem fJ_step {S : mS} {p t j : Nat} (hj : 0 < j) (z : Nat) : (if z = j - 1 then fT S p (t + 1) (j - 1) else fJ S p t j z) = fJ S p t (j - 1) z := by
  unfold fJ
  by_cases c : z = j - 1
  · rw [if_pos c, if_neg (by omega), c]
  · rw [if_neg c]
    by_cases d : z < j - 1
    · rw [if_pos d, if_pos (by omega)]
    · rw [if_neg d, if_neg (by omega)]
theorem gJ_0 (S : mS) (p l t : Nat) : gT S p l t = gJ S p l t 0 := by
  funext z; unfold gJ; rw [if_neg (by omega)]
theorem gJ_256 (S : mS) (p l t : Nat) : gJ S p l t 256 = gT S p l (t + 1) := by
  funext z; unfold gJ
  by_cases c : z < 256
  · rw [if_pos c]
  · rw [if_neg c]; unfold gT; rw [if_neg c, if_neg c]
theorem gJ_step {S : mS} {p l t k : Nat} (z : Nat) : (if z = k then gT S p l (t + 1) k else gJ S p l t k z) = gJ S p l t (k + 1) z := by
  unfold gJ
  by_cases c : z = k
  · rw [if_pos c, if_pos (by omega), c]
  · rw [if_neg c]
    by_cases d : z < k
    · rw [if_pos d, if_pos (by omega)]
    · rw [if_neg d, if_neg (by omega)]
theorem fT_in {S : mS} {p t z : Nat} (hz : z < 256) : fT S p t z = nxW (fun z => mB S 10 (256 * p + z)) (mN S 8 p) t z := by unfold fT; rw [if_pos hz]
theorem gT_in {S : mS} {p l t z : Nat} (hz : z < 256) : gT S p l t z = thW (fun z => mB S 10 (256 * p + z)) (mN S 8 p) l t z := by unfold gT; rw [if_pos hz]
theorem nI_minus1 (a : Nat) : nI a + Int32.ofInt (-1) = nI a - nI 1 := by
  rw [Int32.sub_eq_add_neg]; rfl

