/-! thinned results -/
def lenT (g : mS) (r k : Nat) : Nat := if 0 < hb (mN g 21 (40 * r + k)) 8 ∧ thE g r k ≤ k then hb (mN g 21 (40 * r + k)) 8 else 0
theorem thV_X (g : mS) (r k : Nat) : thV g r k = bitX (lenT g r k) := by
  unfold thV lenT
  split
  · rename_i c; unfold bitX; rw [if_neg (by omega)]
  · rfl
theorem lenT_8 (g : mS) (r k : Nat) : lenT g r k ≤ 8 := by
  unfold lenT
  split
  · exact hb_le _ _
  · omega
theorem thF_X {g : mS} {r k : Nat} (hk : k < 40) : thF g r 40 (40 * r + k) = bitX (lenT g r k) := by
  unfold thF
  rw [if_pos (by omega), show 40 * r + k - 40 * r = k by omega, thV_X]
theorem thE_s {g : mS} {r k : Nat} : thE g r (k + 1) = if 0 < lenT g r k then k + lenT g r k else thE g r k := by
  rw [thE]; unfold lenT
  by_cases c : 0 < hb (mN g 21 (40 * r + k)) 8 ∧ thE g r k ≤ k
  · rw [if_pos c, if_pos c, if_pos c.1]
  · rw [if_neg c, if_neg c, if_neg (Nat.lt_irrefl _)]
theorem lenT_p {g : mS} {r k : Nat} (h : 0 < lenT g r k) : thE g r k ≤ k := by
  unfold lenT at h
  split at h
  · rename_i c; exact c.2
  · omega
theorem thE_mono {g : mS} {r k : Nat} : ∀ d, thE g r k ≤ thE g r (k + d)
  | 0 => Nat.le_refl _
  | d + 1 => by
    have i := thE_mono (g := g) (r := r) (k := k) d
    rw [show k + (d + 1) = k + d + 1 by omega, thE_s]
    split
    · rename_i c; have := lenT_p c; omega
    · exact i
/-- its matches don't overlap -/
theorem lenT_apart {g : mS} {r p q : Nat} (hp : 0 < lenT g r p) (hq : 0 < lenT g r q) (h : p < q) : p + lenT g r p ≤ q := by
  have h1 := thE_mono (g := g) (r := r) (k := p + 1) (q - (p + 1))
  rw [show p + 1 + (q - (p + 1)) = q by omega, thE_s, if_pos hp] at h1
  have := lenT_p hq
  omega
theorem hb_X {x : Nat} (h : x ≤ 8) : hb (bitX x) 8 = x := by
  have e : ∀ x, x ≤ 8 → hb (bitX x) 8 = x := by decide
  exact e x h
theorem bits8_hb {v : Nat} (h : v < 512) : 0 < hb v 8 ↔ 0 < bits8 v := by
  have e : ∀ v, v < 512 → (0 < hb v 8 ↔ 0 < bits8 v) := by decide +kernel
  exact e v h
theorem lenT_bits {g : mS} (I : mInv g) {r k : Nat} (hr : r < 8) (hk : k < 40) : (if 0 < lenT g r k then 1 else 0) ≤ bits8 (mN g 21 (40 * r + k)) := by
  have h := (bits8_hb (I.2.2.2.2.2.2.2.2.2.2.2.2.2.1 (40 * r + k) (by omega)).1).mp
  by_cases c : 0 < lenT g r k
  · rw [if_pos c]
    unfold lenT at c
    split at c
    · rename_i d; exact h d.1
    · omega
  · rw [if_neg c]; omega
theorem th_le {g g' : mS} (I : mInv g) {r : Nat} (hr : r < 8) (h : ∀ i, mN g' 21 i = thF g r 40 i) : mSize g' r ≤ mSize g r := by
  rw [one_sz (fun k _ => lenT_8 g r k) (fun k hk => (h _).trans (thF_X hk))]
  exact sumTo_mono (fun k hk => lenT_bits I hr hk)
theorem th_pos {g g' : mS} (I : mInv g) {r : Nat} (hr : r < 8) (h : ∀ i, mN g' 21 i = thF g r 40 i) (hg : 0 < mSize g r) : 0 < mSize g' r := by
  rw [one_sz (fun k _ => lenT_8 g r k) (fun k hk => (h _).trans (thF_X hk))]
  refine Nat.pos_of_ne_zero (fun z => ?_)
  have z1 : ∀ k, k < 40 → lenT g r k = 0 := fun k hk => by
    have := sumTo_part (f := fun k => if 0 < lenT g r k then 1 else 0) hk
    rw [z] at this
    by_cases c : 0 < lenT g r k
    · replace this : (if 0 < lenT g r k then 1 else 0) ≤ 0 := this
      rw [if_pos c] at this; omega
    · omega
  have z2 : ∀ k, k ≤ 40 → thE g r k = 0 := fun k => by
    induction k with
    | zero => intro _; rfl
    | succ k ih => intro hk; rw [thE_s, if_neg (by rw [z1 k (by omega)]; omega)]; exact ih (by omega)
  have z3 : mSize g r = 0 := by
    refine Nat.le_zero.mp ?_
    refine Nat.le_trans (sumTo_le (c := 0) (fun k hk => ?_)) (by omega)
    have e := z1 k hk
    unfold lenT at e
    rw [z2 k (by omega)] at e
    have b := (bits8_hb (I.2.2.2.2.2.2.2.2.2.2.2.2.2.1 (40 * r + k) (by omega)).1)
    by_cases c : 0 < hb (mN g 21 (40 * r + k)) 8
    · rw [if_pos ⟨c, Nat.zero_le _⟩] at e; omega
    · have := mt b.mpr c; omega
  omega
theorem th_E {g g' : mS} {r : Nat} (h : ∀ i, mN g' 21 i = thF g r 40 i) : ∀ k, k ≤ 40 → thE g' r k = thE g r k
  | 0, _ => rfl
  | k + 1, hk => by
    have i := th_E h k (by omega)
    rw [thE, h, thF_X (by omega), hb_X (lenT_8 g r k), i, thE_s]
    by_cases c : 0 < lenT g r k
    · rw [if_pos ⟨c, lenT_p c⟩, if_pos c]
    · rw [if_neg (fun z => c z.1), if_neg c]
theorem th_idem {g g' : mS} {r k : Nat} (h : ∀ i, mN g' 21 i = thF g r 40 i) (hk : k < 40) : lenT g' r k = lenT g r k := by
  unfold lenT
  rw [h, thF_X hk, hb_X (lenT_8 g r k), th_E h k (by omega)]
  by_cases c : 0 < lenT g r k
  · rw [if_pos ⟨c, lenT_p c⟩]; rfl
  · rw [if_neg (fun z => c z.1)]
    show 0 = lenT g r k
    omega
theorem th_same {g g' g'' : mS} {r : Nat} (h : ∀ i, mN g' 21 i = thF g r 40 i) (h2 : ∀ i, mN g'' 21 i = thF g' r 40 i) : ∀ k, k < 40 → mN g'' 21 (40 * r + k) = bitX (lenT g r k) := fun k hk => by
  rw [h2, thF_X hk, th_idem h hk]
/-! joined results -/
theorem bits_le {a b : Nat} (h : ∀ j, a / 2 ^ j % 2 = 1 → b / 2 ^ j % 2 = 1) : bits8 a ≤ bits8 b := sumTo_mono (fun k _ => by
  have := h (k + 1)
  rcases bit01 a (k + 1) with z | z <;> rcases bit01 b (k + 1) with y | y <;> omega)
theorem jn_or {a b : Nat} : bits8 a ≤ bits8 (a ||| b) ∧ bits8 b ≤ bits8 (a ||| b) ∧ bits8 (a ||| b) ≤ bits8 a + bits8 b := by
  refine ⟨bits_le (fun j h => bit_or.mpr (Or.inl h)), bits_le (fun j h => bit_or.mpr (Or.inr h)), ?_⟩
  unfold bits8
  rw [← sumTo_add]
  refine sumTo_mono (fun k _ => ?_)
  have := bit_or (a := a) (b := b) (k := k + 1)
  rcases bit01 (a ||| b) (k + 1) with z | z
  · omega
  · rcases this.mp z with y | y <;> omega
theorem jn_and {a b : Nat} : bits8 (a &&& b) ≤ bits8 a ∧ bits8 (a &&& b) ≤ bits8 b := ⟨bits_le (fun j h => (bit_and.mp h).1), bits_le (fun j h => (bit_and.mp h).2)⟩
theorem ones32 {k : Nat} (h : k < 32) : 4294967295 / 2 ^ k % 2 = 1 := by
  have e : ∀ k, k < 32 → 4294967295 / 2 ^ k % 2 = 1 := by decide
  exact e k h
theorem jn_not {a b : Nat} : bits8 (a &&& (b ^^^ 4294967295)) ≤ bits8 a ∧ bits8 a ≤ bits8 (a &&& (b ^^^ 4294967295)) + bits8 b := by
  refine ⟨jn_and.1, ?_⟩
  unfold bits8
  rw [← sumTo_add]
  refine sumTo_mono (fun k hk => ?_)
  have h1 := bit_and (a := a) (b := b ^^^ 4294967295) (k := k + 1)
  have h2 := xor_bit (a := b) (b := 4294967295) (k := k + 1)
  have h3 := ones32 (k := k + 1) (by omega)
  rcases bit01 a (k + 1) with z | z <;> rcases bit01 b (k + 1) with y | y
  · omega
  · omega
  · have := h1.mpr ⟨z, h2.mpr (fun q => by have := q.mpr h3; omega)⟩; omega
  · omega
theorem jn_self {a : Nat} : bits8 (a &&& (a ^^^ 4294967295)) = 0 := by
  refine Nat.le_zero.mp (Nat.le_trans (sumTo_le (c := 0) (fun k hk => ?_)) (by omega))
  have h1 := bit_and (a := a) (b := a ^^^ 4294967295) (k := k + 1)
  have h2 := xor_bit (a := a) (b := 4294967295) (k := k + 1)
  have h3 := ones32 (k := k + 1) (by omega)
  rcases bit01 (a &&& (a ^^^ 4294967295)) (k + 1) with z | z
  · omega
  · obtain ⟨e1, e2⟩ := h1.mp z
    exact absurd ⟨fun _ => h3, fun _ => e1⟩ (h2.mp e2)
theorem joF_X {g : mS} {r o w k : Nat} (hk : k < 40) : joF g r o w 40 (40 * r + k) = jn (mN g 21 (40 * r + k)) (mN g 21 (40 * o + k)) w := by
  unfold joF
  rw [if_pos (by omega), show 40 * r + k - 40 * r = k by omega]
theorem joF_o {g : mS} {r o w k z : Nat} (hk : k < 40) (hz : z ≠ r) : joF g r o w 40 (40 * z + k) = mN g 21 (40 * z + k) := by
  unfold joF
  rw [if_neg (by omega)]
theorem jo_other {g g' : mS} {r o w z : Nat} (h : ∀ i, mN g' 21 i = joF g r o w 40 i) (hz : z ≠ r) : mSize g' z = mSize g z := x_mSize (fun k hk => by rw [h, joF_o hk hz])
theorem jo_0 {g g' : mS} {r o : Nat} (h : ∀ i, mN g' 21 i = joF g r o 0 40 i) : mSize g r ≤ mSize g' r ∧ mSize g o ≤ mSize g' r ∧ mSize g' r ≤ mSize g r + mSize g o := by
  have e : ∀ k, k < 40 → mN g' 21 (40 * r + k) = mN g 21 (40 * r + k) ||| mN g 21 (40 * o + k) := fun k hk => by rw [h, joF_X hk]; rfl
  refine ⟨sumTo_mono (fun k hk => by rw [e k hk]; exact jn_or.1), sumTo_mono (fun k hk => by rw [e k hk]; exact jn_or.2.1), ?_⟩
  unfold mSize
  rw [← sumTo_add]
  exact sumTo_mono (fun k hk => by rw [e k hk]; exact jn_or.2.2)
theorem jo_1 {g g' : mS} {r o : Nat} (h : ∀ i, mN g' 21 i = joF g r o 1 40 i) : mSize g' r ≤ mSize g r ∧ mSize g' r ≤ mSize g o := by
  have e : ∀ k, k < 40 → mN g' 21 (40 * r + k) = mN g 21 (40 * r + k) &&& mN g 21 (40 * o + k) := fun k hk => by rw [h, joF_X hk]; rfl
  exact ⟨sumTo_mono (fun k hk => by rw [e k hk]; exact jn_and.1), sumTo_mono (fun k hk => by rw [e k hk]; exact jn_and.2)⟩
theorem jo_2 {g g' : mS} {r o : Nat} (h : ∀ i, mN g' 21 i = joF g r o 2 40 i) : mSize g' r ≤ mSize g r ∧ mSize g r ≤ mSize g' r + mSize g o := by
  have e : ∀ k, k < 40 → mN g' 21 (40 * r + k) = mN g 21 (40 * r + k) &&& (mN g 21 (40 * o + k) ^^^ 4294967295) := fun k hk => by rw [h, joF_X hk]; rfl
  refine ⟨sumTo_mono (fun k hk => by rw [e k hk]; exact jn_not.1), ?_⟩
  unfold mSize
  rw [← sumTo_add]
  exact sumTo_mono (fun k hk => by rw [e k hk]; exact jn_not.2)
theorem jo_s {g g' : mS} {r w : Nat} (hw : w < 3) (h : ∀ i, mN g' 21 i = joF g r r w 40 i) : mSize g' r = if w = 2 then 0 else mSize g r := by
  have e : ∀ k, k < 40 → bits8 (mN g' 21 (40 * r + k)) = if w = 2 then 0 else bits8 (mN g 21 (40 * r + k)) := fun k hk => by
    rw [h, joF_X hk]
    unfold jn
    rcases (show w = 0 ∨ w = 1 ∨ w = 2 by omega) with rfl | rfl | rfl
    · rw [if_pos rfl, Nat.or_self]; rfl
    · rw [if_neg (by decide), if_pos rfl, Nat.and_self]; rfl
    · rw [if_neg (by decide), if_neg (by decide), if_pos rfl, jn_self]
  unfold mSize
  rw [sumTo_congr e]
  split
  · exact Nat.le_zero.mp (Nat.le_trans (sumTo_le (c := 0) (fun k _ => Nat.le_refl _)) (by omega))
  · rfl
/-! results kept by what is aligned -/
theorem alF_X {g : mS} {r p k : Nat} {nn : Bool} (hk : k < 40) : alF g r p nn 40 (40 * r + k) = alV g r p nn k := by
  unfold alF
  rw [if_pos (by omega), show 40 * r + k - 40 * r = k by omega]
theorem bits8_0 : bits8 0 = 0 := by decide
theorem al_le {g g' : mS} {r p : Nat} {nn : Bool} (h : ∀ i, mN g' 21 i = alF g r p nn 40 i) : mSize g' r ≤ mSize g r := sumTo_mono (fun k hk => by
  rw [h, alF_X hk]; unfold alV
  split
  · exact Nat.le_refl _
  · rw [bits8_0]; exact Nat.zero_le _)
theorem x_paB {S T : mS} (h : sameC S T) (h7 : ∀ i, mN S 7 i = mN T 7 i) (s its j : Nat) : paB S s its j = paB T s its j := by
  unfold paB; rw [h.2.2.1, h7]
theorem x_haO {f g : Nat → Bool} (h : ∀ j, f j = g j) : ∀ k, haO f k = haO g k
  | 0 => rfl
  | k + 1 => by rw [haO, haO, x_haO h k, h]
theorem x_mHas {S T : mS} (h : sameC S T) (h7 : ∀ i, mN S 7 i = mN T 7 i) (s its p : Nat) : mHas S s its p = mHas T s its p := by
  unfold mHas
  rw [h.1, x_haO (g := haF T s its p) (fun j => by unfold haF; rw [x_paB h h7, mLong_c h])]
theorem al_idem {g g' g'' : mS} {r p : Nat} {nn : Bool} (h : ∀ i, mN g' 21 i = alF g r p nn 40 i) (R : resR g g') (e20 : ∀ i, mI g' 20 i = mI g 20 i) (h2 : ∀ i, mN g'' 21 i = alF g' r p nn 40 i) : mSize g'' r = mSize g' r := x_mSize (fun k hk => by
  rw [h2, alF_X hk, h, alF_X hk]
  have eb : alB g' r p nn k = (!decide (mN g' 21 (40 * r + k) = 0) && !decide (mHas g (sdR g r) (mN g 3 (40 * sdR g r + k)) p = nn)) := by
    unfold alB
    rw [x_mHas R.same R.N7, show sdR g' r = sdR g r by unfold sdR; rw [e20], R.same.2.2.1]
  unfold alV
  rw [eb, h, alF_X hk]
  unfold alV
  by_cases c : alB g r p nn k = true
  · rw [if_pos c]
    unfold alB at c
    rw [if_pos c]
  · rw [if_neg c, if_neg (by simp)])
