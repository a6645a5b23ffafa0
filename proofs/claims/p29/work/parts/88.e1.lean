/-! what the answers see -/
theorem resR.same {g g' : mS} (h : resR g g') : sameC g' g := ⟨fun i => h.2.1 1 i (by decide) (by decide) (by decide) (by decide) (by decide), fun i => h.2.1 2 i (by decide) (by decide) (by decide) (by decide) (by decide), fun i => h.2.1 3 i (by decide) (by decide) (by decide) (by decide) (by decide), fun i => h.2.1 4 i (by decide) (by decide) (by decide) (by decide) (by decide), fun i => h.2.1 8 i (by decide) (by decide) (by decide) (by decide) (by decide), fun i => h.2.1 12 i (by decide) (by decide) (by decide) (by decide) (by decide), fun i => h.2.1 13 i (by decide) (by decide) (by decide) (by decide) (by decide), fun i => h.2.1 14 i (by decide) (by decide) (by decide) (by decide) (by decide), fun i => h.2.2.1 10 i (by decide) (by decide) (by decide), fun i => h.2.2.2 11 i (by decide) (by decide)⟩
theorem resR.N1 {g g' : mS} (h : resR g g') (i : Nat) : mN g' 1 i = mN g 1 i := h.same.1 i
theorem resR.N7 {g g' : mS} (h : resR g g') (i : Nat) : mN g' 7 i = mN g 7 i := h.2.1 7 i (by decide) (by decide) (by decide) (by decide) (by decide)
theorem eqv.N21 {g g' : mS} (h : eqv g g') (i : Nat) : mN g' 21 i = mN g 21 i := h.2.1 21 i (by decide) (by decide) (by decide)
theorem eqv.N {g g' : mS} (h : eqv g g') {k : Nat} (hk : k < 22) (i : Nat) : mN g' k i = mN g k i := h.2.1 k i (by omega) (by omega) (by omega)
theorem eqv.I20 {g g' : mS} (h : eqv g g') (i : Nat) : mI g' 20 i = mI g 20 i := h.2.2.2 20 i (by decide)
theorem x_hasB {S T : mS} {r : Nat} (h : ∀ k, k < 40 → mN S 21 (40 * r + k) = mN T 21 (40 * r + k)) {j : Nat} (hj : j < 360) : hasB S r j = hasB T r j := by
  unfold hasB; rw [h _ (by omega)]
theorem x_cntM {S T : mS} {r : Nat} (h : ∀ k, k < 40 → mN S 21 (40 * r + k) = mN T 21 (40 * r + k)) {j : Nat} (hj : j ≤ 360) : cntM S r j = cntM T r j := sumTo_congr (fun i hi => by rw [x_hasB h (by omega)])
theorem x_fdM {S T : mS} {r m : Nat} (h : ∀ k, k < 40 → mN S 21 (40 * r + k) = mN T 21 (40 * r + k)) : ∀ {j : Nat}, j ≤ 360 → fdM S r m j = fdM T r m j
  | 0, _ => rfl
  | j + 1, hj => by rw [fdM, fdM, x_hasB h (by omega), x_cntM h (by omega), x_fdM h (by omega)]
theorem x_mSize {S T : mS} {r : Nat} (h : ∀ k, k < 40 → mN S 21 (40 * r + k) = mN T 21 (40 * r + k)) : mSize S r = mSize T r := sumTo_congr (fun i hi => by rw [h i hi])
theorem x_mIsR {S T : mS} (h : ∀ i, mI S 20 i = mI T 20 i) (v : Int32) : mIsR S v = mIsR T v := by unfold mIsR; rw [h]
theorem x_nWalk {S T : mS} (h : sameC S T) (p s bd : Nat) (L : Bool) (k : Nat) : nWalk S p s bd L k = nWalk T p s bd L k := sumTo_congr (fun i hi => by rw [mLong_c h])
theorem x_sWalk {S T : mS} (h : sameC S T) (p s bd : Nat) (L : Bool) (k : Nat) : sWalk S p s bd L k = sWalk T p s bd L k := sumTo_congr (fun i hi => by rw [mLong_c h])
/-! the matches of a result, one by one -/
theorem fd_ex {g : mS} {r : Nat} : ∀ {K m : Nat}, m < cntM g r K → ∃ j, j < K ∧ hasB g r j = true ∧ cntM g r j = m ∧ fdM g r m K = 100 * (j / 9) + j % 9
  | 0, m, h => absurd h (Nat.not_lt_zero _)
  | K + 1, m, h => by
    cases c : hasB g r K with
    | false =>
      rw [cnt_F c] at h
      obtain ⟨j, h1, h2, h3, h4⟩ := fd_ex h
      exact ⟨j, by omega, h2, h3, by rw [fdM, if_neg (by rw [c]; simp)]; exact h4⟩
    | true =>
      rw [cnt_T c] at h
      by_cases e : cntM g r K = m
      · exact ⟨K, by omega, c, e, by rw [fdM, if_pos ⟨c, e⟩]⟩
      · obtain ⟨j, h1, h2, h3, h4⟩ := fd_ex (g := g) (r := r) (K := K) (m := m) (by omega)
        exact ⟨j, by omega, h2, h3, by rw [fdM, if_neg (fun z => e z.2)]; exact h4⟩
theorem fd_ord {g : mS} {r j j' : Nat} (h : cntM g r j < cntM g r j') : j < j' := by
  rcases Nat.lt_or_ge j j' with c | c
  · exact c
  · have := cnt_mono (g := g) (r := r) (a := j') (j - j')
    rw [show j' + (j - j') = j by omega] at this
    omega
theorem fd_sum {g : mS} {r : Nat} (φ : Nat → Nat) : ∀ K, sumTo (fun m => φ (fdM g r m K)) (cntM g r K) = sumTo (fun j => if hasB g r j = true then φ (100 * (j / 9) + j % 9) else 0) K
  | 0 => rfl
  | K + 1 => by
    have i := fd_sum (g := g) (r := r) φ K
    cases c : hasB g r K with
    | false =>
      rw [cnt_F c, sumTo_s, if_neg (by rw [c]; simp), ← i]
      refine sumTo_congr (fun m hm => ?_)
      rw [fdM, if_neg (by rw [c]; simp)]
    | true =>
      rw [cnt_T c, sumTo_s, sumTo_s, if_pos c, ← i, fdM, if_pos ⟨c, rfl⟩]
      congr 1
      refine sumTo_congr (fun m hm => ?_)
      rw [fdM, if_neg (fun z => by have := z.2; omega)]
theorem sum_9 (f : Nat → Nat) : ∀ n, sumTo f (9 * n) = sumTo (fun p => sumTo (fun z => f (9 * p + z)) 9) n
  | 0 => rfl
  | n + 1 => by
    have i := sum_9 f n
    rw [sumTo_s, ← i, show 9 * (n + 1) = 9 * n + 8 + 1 by omega, sumTo_s, show 9 * n + 8 = 9 * n + 7 + 1 by omega, sumTo_s, show 9 * n + 7 = 9 * n + 6 + 1 by omega, sumTo_s, show 9 * n + 6 = 9 * n + 5 + 1 by omega, sumTo_s, show 9 * n + 5 = 9 * n + 4 + 1 by omega, sumTo_s, show 9 * n + 4 = 9 * n + 3 + 1 by omega, sumTo_s, show 9 * n + 3 = 9 * n + 2 + 1 by omega, sumTo_s, show 9 * n + 2 = 9 * n + 1 + 1 by omega, sumTo_s, sumTo_s]
    simp only [sumTo, Nat.add_zero, Nat.zero_add, Nat.add_assoc]
theorem bits8_X {x : Nat} (h : x ≤ 8) : bits8 (bitX x) = if 0 < x then 1 else 0 := by
  have e : ∀ x, x ≤ 8 → bits8 (bitX x) = if 0 < x then 1 else 0 := by decide
  exact e x h
theorem hasB_iff {g : mS} {r p z : Nat} (hz : z < 9) : hasB g r (9 * p + z) = true ↔ mN g 21 (40 * r + p) / 2 ^ z % 2 = 1 := by
  unfold hasB
  rw [decide_eq_true_eq, show (9 * p + z) / 9 = p by omega, show (9 * p + z) % 9 = z by omega]
theorem bitX_iff {x z : Nat} (hx : x ≤ 8) (hz : z < 9) : bitX x / 2 ^ z % 2 = 1 ↔ z = x ∧ 0 < x := by
  have e : ∀ x, x ≤ 8 → ∀ z, z < 9 → (bitX x / 2 ^ z % 2 = 1 ↔ z = x ∧ 0 < x) := by decide
  exact e x hx z hz
/-- a result of at most one match at each place -/
theorem one_has {g : mS} {r : Nat} {len : Nat → Nat} (hl : ∀ k, k < 40 → len k ≤ 8) (h : ∀ k, k < 40 → mN g 21 (40 * r + k) = bitX (len k)) {j : Nat} (hj : j < 360) : hasB g r j = true ↔ j % 9 = len (j / 9) ∧ 0 < len (j / 9) := by
  have := hasB_iff (g := g) (r := r) (p := j / 9) (z := j % 9) (by omega)
  rw [show 9 * (j / 9) + j % 9 = j by omega, h _ (by omega), bitX_iff (hl _ (by omega)) (by omega)] at this
  exact this
theorem one_sz {g : mS} {r : Nat} {len : Nat → Nat} (hl : ∀ k, k < 40 → len k ≤ 8) (h : ∀ k, k < 40 → mN g 21 (40 * r + k) = bitX (len k)) : mSize g r = sumTo (fun k => if 0 < len k then 1 else 0) 40 := sumTo_congr (fun k hk => by rw [h k hk, bits8_X (hl k hk)])
theorem one_sum {g : mS} {r : Nat} {len : Nat → Nat} (hl : ∀ k, k < 40 → len k ≤ 8) (h : ∀ k, k < 40 → mN g 21 (40 * r + k) = bitX (len k)) : sumTo (fun m => fdM g r m 360 % 100) (cntM g r 360) = sumTo len 40 := by
  rw [fd_sum (fun v => v % 100) 360, sum_9 _ 40]
  refine sumTo_congr (fun p hp => ?_)
  rw [sumTo_congr (g := fun z => if z = len p then len p else 0) (fun z hz => ?_), sumTo_one, if_pos (by have := hl p hp; omega)]
  show (if hasB g r (9 * p + z) = true then (100 * ((9 * p + z) / 9) + (9 * p + z) % 9) % 100 else 0) = if z = len p then len p else 0
  have e := one_has hl h (j := 9 * p + z) (by omega)
  rw [show (9 * p + z) / 9 = p by omega, show (9 * p + z) % 9 = z by omega] at e
  by_cases c : hasB g r (9 * p + z) = true
  · rw [if_pos c, if_pos (e.mp c).1]; have := (e.mp c).1; omega
  · rw [if_neg c]
    by_cases d : z = len p
    · rw [if_pos d]
      by_cases f : 0 < len p
      · exact absurd (e.mpr ⟨d, f⟩) c
      · omega
    · rw [if_neg d]
/-- its matches: their places rise -/
theorem one_at {g : mS} {r m : Nat} {len : Nat → Nat} (hl : ∀ k, k < 40 → len k ≤ 8) (h : ∀ k, k < 40 → mN g 21 (40 * r + k) = bitX (len k)) (hm : m < cntM g r 360) : ∃ p, p < 40 ∧ fdM g r m 360 = 100 * p + len p ∧ 0 < len p ∧ len p ≤ 8 ∧ cntM g r (9 * p + len p) = m := by
  obtain ⟨j, h1, h2, h3, h4⟩ := fd_ex hm
  obtain ⟨e1, e2⟩ := (one_has hl h h1).mp h2
  exact ⟨j / 9, by omega, by omega, e2, hl _ (by omega), by rw [← e1, show 9 * (j / 9) + j % 9 = j by omega]; exact h3⟩
theorem fd_lt {g : mS} {r m : Nat} (hm : m + 1 < cntM g r 360) : fdM g r m 360 < fdM g r (m + 1) 360 := by
  obtain ⟨j, h1, h2, h3, h4⟩ := fd_ex (g := g) (r := r) (K := 360) (m := m) (by omega)
  obtain ⟨j', k1, k2, k3, k4⟩ := fd_ex hm
  have := fd_ord (g := g) (r := r) (j := j) (j' := j') (by omega)
  omega
theorem one_lt {g : mS} {r m : Nat} {len : Nat → Nat} (hl : ∀ k, k < 40 → len k ≤ 8) (h : ∀ k, k < 40 → mN g 21 (40 * r + k) = bitX (len k)) (hm : m + 1 < cntM g r 360) : fdM g r m 360 / 100 < fdM g r (m + 1) 360 / 100 := by
  obtain ⟨p, p1, p2, p3, p4, p5⟩ := one_at hl h (m := m) (by omega)
  obtain ⟨q, q1, q2, q3, q4, q5⟩ := one_at hl h hm
  have := fd_ord (g := g) (r := r) (j := 9 * p + len p) (j' := 9 * q + len q) (by omega)
  by_cases e : p = q
  · subst e; omega
  · omega
