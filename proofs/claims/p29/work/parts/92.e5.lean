/-! the answers at the law's numbers -/
theorem inR_n {n b : Nat} (h : n ≤ b) (hb : b < 1000) : inR (nI n) 0 b = true := inR_Tb (fun c => by
    have := (nI_ltI (a := n) (b := 0) (by omega) (by omega)).mp c; omega) ((nI_ltI (by omega) (by omega)).mpr (by omega)) hb
theorem inI_n {n m : Nat} (h : n < m) (hm : m ≤ 1000) : inI (nI n) (nI 0) (nI m - nI 1) = true := inI_Tm (fun c => by
    have := (nI_ltI (a := n) (b := 0) (by omega) (by omega)).mp c; omega) ((nI_ltI (by omega) (by omega)).mpr h) hm
theorem tn_n {n : Nat} (h : n < 10000) : tn (nI n) = n := tn_nI (by omega)
theorem a_side {s : Nat} (hs : s < 2) : cSide (nI s) = 0 := by unfold cSide; rw [inR_n (by omega) (by omega), if_pos rfl]
theorem a_tokens {g : mS} {s : Nat} (hs : s < 2) : rTokens g (nI s) = mN g 1 s := by unfold rTokens; rw [inR_n (by omega) (by omega), if_pos rfl, tn_n (by omega)]
theorem a_cSent {g : mS} {s p : Nat} (hs : s < 2) (hp : p < mN g 1 s) (h40 : mN g 1 s ≤ 40) : cSent g (nI s) (nI p) = 0 := by
  unfold cSent; rw [inR_n (by omega) (by omega), tn_n (by omega), inI_n hp (by omega)]; rfl
theorem a_sent {g : mS} {s p : Nat} (hs : s < 2) (hp : p < mN g 1 s) (h40 : mN g 1 s ≤ 40) : rSent g (nI s) (nI p) = mN g 3 (40 * s + p) := by
  unfold rSent; rw [a_cSent hs hp h40, if_pos rfl, tn_n (by omega), tn_n (by omega)]
theorem a_cOcc {s a : Nat} (hs : s < 2) (ha : a < 3) : cOccurs (nI s) (nI a) = 0 := by
  unfold cOccurs; rw [inR_n (by omega) (by omega), inR_n (by omega) (by omega)]; rfl
theorem a_occ {g : mS} {s w : Nat} (hs : s < 2) : rOccurs g (nI s) (nI 0) (nI w) = nOccurs g s 0 (nI w) (mN g 1 s) := by
  unfold rOccurs; rw [a_cOcc hs (by omega), if_pos rfl, tn_n (by omega), tn_n (by omega)]
theorem a_isR {g : mS} {r : Nat} (hr : r < 8) (h : mI g 20 r ≠ -1) : mIsR g (nI r) = true := by
  unfold mIsR; rw [inR_n (by omega) (by omega), tn_n (by omega), decide_eq_false h]; rfl
theorem a_noR {g : mS} {r : Nat} (hr : r < 8) (h : mI g 20 r = -1) : mIsR g (nI r) = false := by
  unfold mIsR; rw [tn_n (by omega), decide_eq_true h]; simp
theorem a_size {g : mS} {r : Nat} (hr : r < 8) (h : mI g 20 r ≠ -1) : rSz g (nI r) = nI (mSize g r) := by
  unfold rSz; rw [a_isR hr h, if_pos rfl, tn_n (by omega)]
theorem a_none {g : mS} {r : Nat} (hr : r < 8) (h : mI g 20 r = -1) : rSz g (nI r) = -1 := by
  unfold rSz; rw [a_noR hr h]; rfl
theorem a_cMat {g : mS} {r m : Nat} (hr : r < 8) (h : mI g 20 r ≠ -1) (hm : m < mSize g r) : cMatch g (nI r) (nI m) = 0 := by
  have := mSize_le g r
  unfold cMatch; rw [a_isR hr h, tn_n (by omega), inI_n hm (by omega)]; rfl
theorem a_mat {g : mS} {r m : Nat} (hr : r < 8) (h : mI g 20 r ≠ -1) (hm : m < mSize g r) : rMatch g (nI r) (nI m) = fdM g r m 360 := by
  have := mSize_le g r
  unfold rMatch; rw [a_cMat hr h hm, if_pos rfl, tn_n (by omega), tn_n (by omega)]
theorem a_isP {g : mS} {p : Nat} (h : p < mK g 15) (h12 : mK g 15 ≤ 12) : mIsP g (nI p) = true := inI_n h (by omega)
theorem a_cWalk {g : mS} {p s b : Nat} (hp : p < mK g 15) (h12 : mK g 15 ≤ 12) (hs : s < 2) (hb : b < 3) : cWalk g (nI p) (nI s) (nI b) = 0 := by
  unfold cWalk; rw [a_isP hp h12, inR_n (by omega) (by omega), inR_n (by omega) (by omega)]; rfl
theorem a_walk {g : mS} {p s b : Nat} {L : Bool} (hp : p < mK g 15) (h12 : mK g 15 ≤ 12) (hs : s < 2) (hb : b < 3) : rWalk g (nI p) (nI s) (nI b) L = 100 * nWalk g p s b L (mN g 1 s) + sWalk g p s b L (mN g 1 s) % 100 := by
  unfold rWalk; rw [a_cWalk hp h12 hs hb, if_pos rfl, tn_n (by omega), tn_n (by omega), tn_n (by omega)]
theorem a_cRun {g : mS} {r p s b : Nat} (hr : r < 8) (hp : p < mK g 15) (h12 : mK g 15 ≤ 12) (hs : s < 2) (hb : b < 3) : cRun g (nI r) (nI p) (nI s) (nI b) = 0 := by
  unfold cRun; rw [a_isP hp h12, inR_n (by omega) (by omega), inR_n (by omega) (by omega), inR_n (by omega) (by omega)]; rfl
theorem a_cJoin {g : mS} {r o w : Nat} (hr : r < 8) (ho : o < 8) (hw : w < 3) (h : mI g 20 r ≠ -1) (h' : mI g 20 o = mI g 20 r) : cJoin g (nI r) (nI o) (nI w) = 0 := by
  unfold cJoin; rw [a_isR hr h, a_isR ho (by rw [h']; exact h), inR_n (by omega) (by omega), tn_n (by omega), tn_n (by omega), if_pos h'.symm]; rfl
theorem a_cAl {g : mS} {r p : Nat} (hr : r < 8) (h : mI g 20 r ≠ -1) (hp : p < mK g 15) (h12 : mK g 15 ≤ 12) : cAl g (nI r) (nI p) = 0 := by
  unfold cAl; rw [a_isR hr h, a_isP hp h12]; rfl
theorem a_cGr {g : mS} {r a : Nat} (hr : r < 8) (h : mI g 20 r ≠ -1) (ha : a < 3) : cGr g (nI r) (nI a) = 0 := by
  unfold cGr; rw [a_isR hr h, inR_n (by omega) (by omega)]; rfl
theorem a_gr {g : mS} {r a : Nat} {L : Bool} (hr : r < 8) (h : mI g 20 r ≠ -1) (ha : a < 3) : rGr g (nI r) (nI a) L = ndM g r a L 360 := by
  unfold rGr; rw [a_cGr hr h ha, if_pos rfl, tn_n (by omega), tn_n (by omega)]
theorem a_cGA {g : mS} {r a k : Nat} {L : Bool} (hr : r < 8) (h : mI g 20 r ≠ -1) (ha : a < 3) (hk : k < ndM g r a L 360) : cGA g (nI r) (nI a) L (nI k) = 0 := by
  have := ndM_le g r a L 360
  unfold cGA; rw [a_isR hr h, inR_n (by omega) (by omega), tn_n (by omega), tn_n (by omega), inI_n hk (by omega)]; rfl
theorem a_gA {g : mS} {r a k : Nat} {L : Bool} (hr : r < 8) (h : mI g 20 r ≠ -1) (ha : a < 3) (hk : k < ndM g r a L 360) : rGA g (nI r) (nI a) L (nI k) = 1000 * cvM g r a L 360 (fdG (cvM g r a L 360) k 100) + fdG (cvM g r a L 360) k 100 := by
  have := ndM_le g r a L 360
  unfold rGA; rw [a_cGA hr h ha hk, if_pos rfl, tn_n (by omega), tn_n (by omega), tn_n (by omega)]
theorem a_cTok {g : mS} {s w k r : Nat} (hs : s < 2) (hw : w < 100) (hk : k < 10) (hr : r < 50) (h : mN g 1 s ≠ 40) : cToken g (nI s) (nI w) (nI k) (nI r) = 0 := by
  unfold cToken; rw [inR_n (by omega) (by omega), inR_n (by omega) (by omega), inR_n (by omega) (by omega), inR_n (by omega) (by omega), tn_n (by omega), if_pos rfl, if_pos (by rfl), if_neg h]
theorem a_tok {g : mS} {s w k r : Nat} (hs : s < 2) (hw : w < 100) (hk : k < 10) (hr : r < 50) (h : mN g 1 s ≠ 40) : rToken g (nI s) (nI w) (nI k) (nI r) = mN g 1 s := by
  unfold rToken; rw [a_cTok hs hw hk hr h, if_pos rfl, tn_n (by omega)]
theorem a_cEnd {g : mS} {s : Nat} (hs : s < 2) (h : mN g 1 s ≠ 0) : cEnd g (nI s) = 0 := by
  unfold cEnd; rw [inR_n (by omega) (by omega), if_pos rfl, tn_n (by omega), if_neg h]
theorem a_end {g : mS} {s : Nat} (hs : s < 2) (h : mN g 1 s ≠ 0) : rEnd g (nI s) = mN g 1 s := by
  unfold rEnd; rw [a_cEnd hs h, if_pos rfl, tn_n (by omega)]
theorem a_sens {g : mS} (S : sInv g) {s p : Nat} (hs : s < 2) (hp : p < mN g 1 s) : mN g 3 (40 * s + p) < mSents g s := by
  unfold mSents
  rw [if_neg (by omega)]
  have := sen_mono S hs (k := p) (mN g 1 s - 1 - p) (by omega)
  rw [show p + (mN g 1 s - 1 - p) = mN g 1 s - 1 by omega, show 40 * s + (mN g 1 s - 1) = 40 * s + mN g 1 s - 1 by omega] at this
  omega
theorem a_sen40 {g : mS} (I : mInv g) {s p : Nat} (hs : s < 2) (hp : p < 40) : mN g 3 (40 * s + p) < 40 := by
  have := I.2.2.1 (40 * s + p) (by omega); omega
theorem a_cAln {g : mS} (I : mInv g) (S : sInv g) {p q : Nat} (hp : p < mN g 1 0) (hq : q < mN g 1 1) : cAlign g (nI (mN g 3 (40 * 0 + p))) (nI (mN g 3 (40 * 1 + q))) = 0 := by
  have h1 := I.1 0 (by omega)
  have h2 := I.1 1 (by omega)
  have s1 : mSents g 0 ≤ 40 := mSents_le I (by omega)
  have s2 : mSents g 1 ≤ 40 := mSents_le I (by omega)
  unfold cAlign
  rw [inI_n (a_sens S (by omega) hp) (by omega), inI_n (a_sens S (by omega) hq) (by omega)]; rfl
theorem al2_K {g : mS} {a b : Nat} : mK (tAl2 g a b) 40 = mK g 40 ∨ mK (tAl2 g a b) 40 = mK g 40 + 1 := by
  unfold tAl2
  split
  · exact Or.inl rfl
  · exact Or.inr rfl
theorem al2_bit {g : mS} {a b : Nat} (ha : a < 40) (hb : b < 40) : mN (tAl2 g a b) 53 (40 * 0 + a) / 2 ^ b % 2 = 1 := by
  unfold tAl2
  split
  · assumption
  · show mN (uN (uN g 53 (40 * 0 + a) (mN g 53 (40 * 0 + a) ||| 1 * 2 ^ b)) 53 (40 * 1 + b) _) 53 (40 * 0 + a) / 2 ^ b % 2 = 1
    rw [mN_uN, if_neg (by omega), mN_uN, if_pos ⟨rfl, rfl⟩, bit_or]
    refine Or.inr ?_
    rw [Nat.one_mul]; exact bit_pow.mpr rfl
theorem al2_again {g : mS} {a b : Nat} (h : mN g 53 (40 * 0 + a) / 2 ^ b % 2 = 1) : mK (tAl2 g a b) 40 = mK g 40 := by
  unfold tAl2; rw [if_pos h]
theorem pairs_le {g : mS} (A : AI g) : mK g 40 ≤ 1600 := by
  rw [A.2.2.2.2.2]
  have := sumTo_le (f := fun k => mN g 7 (k / 40) / 2 ^ (k % 40) % 2) (c := 1) (k := 1600) (fun j _ => by show _ % 2 ≤ 1; omega)
  unfold nPairs; omega
theorem tests_ge {g : mS} (A : AI g) : mK g 16 ≤ mTests g ∧ mTests g ≤ 8 := by
  refine ⟨?_, mTests_le A.1⟩
  have := sumTo_mono (f := fun _ => 1) (g := fun k => mN g 8 (12 + k)) (k := mK g 16) (fun j hj => (A.1.2.2.2.2.2.2.2.2.2.2.2.2.2.2.2 (12 + j) (Or.inr ⟨by omega, by omega⟩)).1)
  rw [sum_const] at this
  unfold mTests; omega
theorem no_full {g : mS} (h : mK g 16 = 0) : mTests g = 0 := by unfold mTests; rw [h]; rfl
theorem full_T {g : mS} {a v : Int32} (h : cTest g a v = 2) : mTests g = 8 := by
  unfold cTest at h
  split at h
  · split at h
    · assumption
    · cases h
  · cases h
theorem full_S {g : mS} {a v : Int32} (h : cSame g a v = 2) : mTests g = 8 := by
  unfold cSame at h
  split at h
  · split at h
    · assumption
    · cases h
  · cases h
theorem full_A {g : mS} (h : cAny g = 1) : mTests g = 8 := by
  unfold cAny at h
  split at h
  · assumption
  · cases h
theorem ne_T {g : mS} {a v : Nat} (ha : a < 3) (hv : v < 100) : cTest g (nI a) (nI v) ≠ 1 := by
  unfold cTest; rw [inR_n (by omega) (by omega), inR_n (by omega) (by omega)]
  rw [if_pos (by rfl)]; split <;> decide
theorem ne_S {g : mS} {a v : Nat} (ha : a < 3) (hv : v < 3) : cSame g (nI a) (nI v) ≠ 1 := by
  unfold cSame; rw [inR_n (by omega) (by omega), inR_n (by omega) (by omega)]
  rw [if_pos (by rfl)]; split <;> decide
theorem ne_L {g : mS} {v : Nat} (hv : v < 3) : cLabel g (nI v) ≠ 1 := by
  unfold cLabel; rw [inR_n (by omega) (by omega)]
  rw [if_pos rfl]; split <;> decide
theorem ne_R {g : mS} {a b : Nat} (ha : a < 4) (hb : b < 4) (h1 : 1 ≤ b) (hab : a ≤ b) : cRep g (nI a) (nI b) ≠ 1 := by
  have e : areR (nI a) (nI b) = true := by
    have e : ∀ a, a < 4 → ∀ b, b < 4 → 1 ≤ b → a ≤ b → areR (nI a) (nI b) = true := by decide
    exact e a ha b hb h1 hab
  unfold cRep; rw [e, if_pos rfl]; split <;> decide
theorem two_0 {g : mS} (h : 1 < mK g 16) : cTwo g = 0 := by unfold cTwo; rw [if_neg (by omega)]
theorem keep_0 {g : mS} (h : mK g 16 = 1) (h2 : mK g 15 < 12) : cKeep g = 0 := by unfold cKeep; rw [if_pos ⟨h, by omega⟩]
theorem pilR_rf {g : mS} : pilR g g (mK g 16) := ⟨⟨rfl, rfl, rfl⟩, fun _ _ _ => rfl, fun _ _ _ => rfl, fun _ => rfl⟩
theorem pilR.tr {a b c : mS} {n m : Nat} (h : pilR a b n) (k : pilR b c m) : pilR a c m := ⟨⟨k.1.1, k.1.2.1.trans h.1.2.1, k.1.2.2.trans h.1.2.2⟩, fun j i z => (k.2.1 j i z).trans (h.2.1 j i z), fun j i z => (k.2.2.1 j i z).trans (h.2.2.1 j i z), fun r => (k.2.2.2 r).trans (h.2.2.2 r)⟩
/-! what holds between the law's steps -/
def pI (g : mS) (f : Nat → Nat) (n : Nat) : Prop := (∀ s, s < 2 → f s = mN g 1 s) ∧ f 2 = mK g 15 ∧ f 3 = mK g 40 ∧ mK g 16 = 0 ∧ (∀ r, r < 8 → (mI g 20 r = -1 ∧ f (4 + r) = 0) ∨ ∃ s, s < 2 ∧ mI g 20 r = nI s ∧ f (4 + r) = 1 ∧ f (12 + r) = s) ∧ f 20 ≤ n ∧ sInv g
theorem pI_pil {g g' : mS} {f : Nat → Nat} {n : Nat} (h : pI g f n) (k : pilR g g' 0) : pI g' f n := by
  obtain ⟨h1, h2, h3, h4, h5, h6, h7⟩ := h
  refine ⟨fun s hs => by rw [k.2.1 1 s (by omega)]; exact h1 s hs, by rw [k.1.2.1]; exact h2, by rw [k.1.2.2]; exact h3, k.1.1, fun r hr => by rw [k.2.2.2]; exact h5 r hr, h6, sInv_c h7 k.2.1 k.2.2.1⟩
theorem pI_res {g g' : mS} {f : Nat → Nat} {n : Nat} (h : pI g f n) (k : resR g g') (e : ∀ i, mI g' 20 i = mI g 20 i) : pI g' f n := by
  obtain ⟨h1, h2, h3, h4, h5, h6, h7⟩ := h
  refine ⟨fun s hs => by rw [k.N1]; exact h1 s hs, by rw [k.1 15 (by decide) (by decide)]; exact h2, by rw [k.1 40 (by decide) (by decide)]; exact h3, by rw [k.1 16 (by decide) (by decide)]; exact h4, fun r hr => by rw [e]; exact h5 r hr, h6, sInv_c h7 (fun j i hj => k.2.1 j i (by omega) (by omega) (by omega) (by omega) (by omega)) (fun j i hj => k.2.2.1 j i (by omega) (by omega) (by omega))⟩
theorem pI_eqv {g g' : mS} {f : Nat → Nat} {n : Nat} (h : pI g f n) (k : eqv g g') : pI g' f n := pI_res h k.res k.I20
theorem pI_le {g : mS} {f : Nat → Nat} {n m : Nat} (h : pI g f n) (k : n ≤ m) : pI g f m := ⟨h.1, h.2.1, h.2.2.1, h.2.2.2.1, h.2.2.2.2.1, Nat.le_trans h.2.2.2.2.2.1 k, h.2.2.2.2.2.2⟩
