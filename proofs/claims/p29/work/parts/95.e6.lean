/-! answers behind calls that change nothing -/
theorem a_sizeE {g g' : mS} (E : eqv g g') {r : Nat} (hr : r < 8) (h : mI g 20 r ≠ -1) : rSz g' (nI r) = nI (mSize g r) := by
  rw [a_size hr (by rw [E.I20]; exact h), x_mSize (fun k _ => E.N21 _)]
theorem a_matE {g g' : mS} (E : eqv g g') {r m : Nat} (hr : r < 8) (h : mI g 20 r ≠ -1) (hm : m < mSize g r) : cMatch g' (nI r) (nI m) = 0 ∧ rMatch g' (nI r) (nI m) = fdM g r m 360 := by
  have h' : mI g' 20 r ≠ -1 := by rw [E.I20]; exact h
  have hm' : m < mSize g' r := by rw [x_mSize (fun k _ => E.N21 _)]; exact hm
  exact ⟨a_cMat hr h' hm', by rw [a_mat hr h' hm', x_fdM (fun k _ => E.N21 _) (Nat.le_refl _)]⟩
theorem a_walkR {g g' : mS} (R : resR g g') {p s b : Nat} {L : Bool} (hp : p < mK g 15) (h12 : mK g 15 ≤ 12) (hs : s < 2) (hb : b < 3) : cWalk g' (nI p) (nI s) (nI b) = 0 ∧ rWalk g' (nI p) (nI s) (nI b) L = 100 * nWalk g p s b L (mN g 1 s) + sWalk g p s b L (mN g 1 s) % 100 := by
  have e15 := R.1 15 (by decide) (by decide)
  refine ⟨a_cWalk (by omega) (by omega) hs hb, ?_⟩
  rw [a_walk (by omega) (by omega) hs hb, x_nWalk R.same, x_sWalk R.same, R.N1]
theorem a_sentR {g g' : mS} (R : resR g g') {s p : Nat} (hs : s < 2) (hp : p < mN g 1 s) (h40 : mN g 1 s ≤ 40) : cSent g' (nI s) (nI p) = 0 ∧ rSent g' (nI s) (nI p) = mN g 3 (40 * s + p) := by
  have e1 := R.N1 s
  exact ⟨a_cSent hs (by omega) (by omega), by rw [a_sent hs (by omega) (by omega), R.same.2.2.1]⟩
theorem nI_toI {n : Nat} (h : n < 2147483648) : (nI n).toInt = n := by
  show (Int32.ofNat n).toInt = n
  rw [Int32.toInt_ofNat_of_lt h]
theorem lt_neg {a : Int32} {n : Nat} (ha : a.toInt < 0) (h : n < 2147483648) : a < nI n := by
  rw [Int32.lt_iff_toInt_lt, nI_toI h]; omega
theorem sub_no {a b c : Nat} (ha : a < 1000) (hb : b < 1000) (hc : c < 1000) (h : b ≤ a + c) : ¬ (nI a < nI b - nI c) := by
  rcases Nat.lt_or_ge b c with z | z
  · intro e
    have e1 : nI b - nI c < nI 0 := by
      rw [Int32.lt_iff_toInt_lt, Int32.toInt_sub, nI_toI (by omega), nI_toI (by omega), nI_toI (by omega)]
      have : ((b : Int) - (c : Int)).bmod (2 ^ 32) = (b : Int) - (c : Int) := by
        rw [Int.bmod_eq_of_le] <;> omega
      rw [this]; omega
    have e2 : nI a < nI 0 := Int32.lt_trans e e1
    have := (nI_ltI (by omega) (by omega)).mp e2
    omega
  · rw [pk_sub z]
    intro e
    have := (nI_ltI (by omega) (by omega)).mp e
    omega
theorem nI_ne {s : Nat} (hs : s < 2) : nI s ≠ -1 := nI_m1 (by omega)
/-! groups, one by one -/
def gW (g : mS) (r a : Nat) (L : Bool) (k : Nat) : Nat := 1000 * cvM g r a L 360 (fdG (cvM g r a L 360) k 100) + fdG (cvM g r a L 360) k 100
theorem gW_f {g : mS} (I : mInv g) {r a k : Nat} {L : Bool} (hr : r < 8) (h : mI g 20 r ≠ -1) (ha : a < 3) (hk : k < ndM g r a L 360) : (1 ≤ gW g r a L k / 1000 ∧ gW g r a L k / 1000 ≤ 360 ∧ gW g r a L k ≤ 361000) ∧ (k + 1 < ndM g r a L 360 → gW g r a L (k + 1) / 1000 < gW g r a L k / 1000 ∨ gW g r a L (k + 1) / 1000 = gW g r a L k / 1000 ∧ gW g r a L k < gW g r a L (k + 1)) := by
  obtain ⟨e1, -, -⟩ := gr_facts I (L := L) hr h ha
  rw [e1] at hk ⊢
  obtain ⟨v, v1, v2, v3, v4⟩ := gr_ex hk
  have hv := cvM_le g r a L 360 v
  unfold gW
  rw [v4]
  refine ⟨by omega, fun hk1 => ?_⟩
  have o := gr_ord hk1
  obtain ⟨w, w1, w2, w3, w4⟩ := gr_ex hk1
  rw [v4, w4] at o
  rw [w4]
  unfold ahd at o
  omega
theorem gW_sum {g : mS} (I : mInv g) {r a : Nat} {L : Bool} (hr : r < 8) (h : mI g 20 r ≠ -1) (ha : a < 3) : sumTo (fun k => gW g r a L k / 1000) (ndM g r a L 360) = mSize g r := by
  obtain ⟨e1, -, e3⟩ := gr_facts I (L := L) hr h ha
  rw [← e3, ← gr_sum, ← e1]
  refine sumTo_congr (fun k hk => ?_)
  rw [e1] at hk
  obtain ⟨v, v1, v2, v3, v4⟩ := gr_ex hk
  unfold gW
  rw [v4]
  omega
/-! thinned, one by one -/
theorem th_sz {g g' g'' : mS} {r : Nat} (h : ∀ i, mN g' 21 i = thF g r 40 i) (h2 : ∀ i, mN g'' 21 i = thF g' r 40 i) : mSize g'' r = mSize g' r := x_mSize (fun k hk => by rw [th_same h h2 k hk, h, thF_X hk])
theorem th_loop {g g' : mS} (I : mInv g') {r s k : Nat} (hr : r < 8) (hs : s < 2) (e20 : mI g' 20 r = nI s) (h : ∀ k, k < 40 → mN g' 21 (40 * r + k) = bitX (lenT g r k)) (hk : k < mSize g' r) : (fdM g' r k 360 / 100 + fdM g' r k 360 % 100 ≤ mN g' 1 s ∧ fdM g' r k 360 < 10000) ∧ (k + 1 < mSize g' r → fdM g' r k 360 / 100 + fdM g' r k 360 % 100 ≤ fdM g' r (k + 1) 360 / 100) := by
  have hl : ∀ k, k < 40 → lenT g r k ≤ 8 := fun k _ => lenT_8 g r k
  rw [mSize_cnt I hr] at hk ⊢
  obtain ⟨p, p1, p2, p3, p4, p5⟩ := one_at hl h hk
  have hb := I.2.2.2.2.2.2.2.2.2.2.2.2.2.2.1 r s hr hs e20 p p1 (lenT g r p) (by omega) (by rw [h p p1, bitX_iff p4 (by omega)]; exact ⟨rfl, p3⟩)
  refine ⟨by omega, fun hk1 => ?_⟩
  obtain ⟨q, q1, q2, q3, q4, q5⟩ := one_at hl h hk1
  have hlt := one_lt hl h hk1
  have := lenT_apart p3 q3 (by omega)
  omega
/-! a run, one by one -/
theorem run_loop {g g' : mS} (I : mInv g) (I' : mInv g') {r p s bd k : Nat} {L : Bool} (hr : r < 8) (hp : p < 21) (hs : s < 2) (h : ∀ i, mN g' 21 i = crF g r p s bd L (mN g 1 s) i) (hk : k < mSize g' r) :
    ∃ pl ln, fdM g' r k 360 = 100 * pl + ln ∧ 1 ≤ ln ∧ ln ≤ 8 ∧ pl + ln ≤ mN g 1 s ∧ (bd = 1 → mN g 3 (40 * s + (pl + ln - 1)) = mN g 3 (40 * s + pl)) ∧ (k + 1 < mSize g' r → pl < fdM g' r (k + 1) 360 / 100) := by
  have hl : ∀ k, k < 40 → lenX g p s bd L k ≤ 8 := fun k _ => lenX_8 I hp
  have hX : ∀ k, k < 40 → mN g' 21 (40 * r + k) = bitX (lenX g p s bd L k) := fun k hk => by rw [h, crF_X I hs hk]
  rw [mSize_cnt I' hr] at hk ⊢
  obtain ⟨q, q1, q2, q3, q4, q5⟩ := one_at hl hX hk
  have hq : q < mN g 1 s := by
    unfold lenX at q3
    split at q3
    · assumption
    · omega
  have e : lenX g p s bd L q = mLong g p s q bd L := by unfold lenX; rw [if_pos hq]
  have he := mLong_end I (p := p) (bd := bd) (L := L) hs hq
  refine ⟨q, lenX g p s bd L q, q2, q3, q4, by omega, fun hb => ?_, fun hk1 => ?_⟩
  · subst hb
    exact mLong_sen I (p := p) (L := L) hs hq (by omega) (by omega)
  · have := one_lt hl hX hk1
    omega
theorem run_sums {g g' : mS} (I : mInv g) (I' : mInv g') {r p s bd : Nat} {L : Bool} (hr : r < 8) (hp : p < 21) (hs : s < 2) (h : ∀ i, mN g' 21 i = crF g r p s bd L (mN g 1 s) i) : mSize g' r = nWalk g p s bd L (mN g 1 s) ∧ sumTo (fun m => fdM g' r m 360 % 100) (mSize g' r) = sWalk g p s bd L (mN g 1 s) := by
  have hl : ∀ k, k < 40 → lenX g p s bd L k ≤ 8 := fun k _ => lenX_8 I hp
  have hX : ∀ k, k < 40 → mN g' 21 (40 * r + k) = bitX (lenX g p s bd L k) := fun k hk => by rw [h, crF_X I hs hk]
  refine ⟨by rw [one_sz hl hX, lenX_n I hs], ?_⟩
  rw [mSize_cnt I' hr, one_sum hl hX]
  exact lenX_s I hs
theorem pI_run {g g1 g' : mS} {f : Nat → Nat} {n r s : Nat} (P : pI g f n) (hr : r < 8) (hs : s < 2) (R : resR g g1) (e : ∀ i, mI g1 20 i = if i = r then nI s else mI g 20 i) (E : eqv g1 g') : pI g' (uF (uF (uF f (4 + r) 1) (12 + r) s) 20 (f 20 + 1)) (n + 1) := by
  obtain ⟨h1, h2, h3, h4, h5, h6, h7⟩ := P
  refine pI_eqv ⟨fun s hs => ?_, ?_, ?_, ?_, fun q hq => ?_, ?_, sInv_c h7 (fun j i hj => R.2.1 j i (by omega) (by omega) (by omega) (by omega) (by omega)) (fun j i hj => R.2.2.1 j i (by omega) (by omega) (by omega))⟩ E
  · rw [uF_n (by omega), uF_n (by omega), uF_n (by omega), R.N1]; exact h1 s hs
  · rw [uF_n (by omega), uF_n (by omega), uF_n (by omega), R.1 15 (by decide) (by decide)]; exact h2
  · rw [uF_n (by omega), uF_n (by omega), uF_n (by omega), R.1 40 (by decide) (by decide)]; exact h3
  · rw [R.1 16 (by decide) (by decide)]; exact h4
  · rw [uF_n (show 4 + q ≠ 20 by omega), uF_n (show 4 + q ≠ 12 + r by omega), uF_n (show 12 + q ≠ 20 by omega), e q]
    by_cases c : q = r
    · subst c
      rw [if_pos rfl, uF_s, uF_s]
      exact Or.inr ⟨s, hs, rfl, rfl, rfl⟩
    · rw [if_neg c, uF_n (show 4 + q ≠ 4 + r by omega), uF_n (show 12 + q ≠ 12 + r by omega), uF_n (show 12 + q ≠ 4 + r by omega)]
      exact h5 q hq
  · rw [uF_s]; omega
