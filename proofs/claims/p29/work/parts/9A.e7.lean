/-! the law's step: what it keeps -/
theorem rSz_ge {g : mS} {v : Int32} : ¬ (rSz g v < -1) := by
  unfold rSz
  split
  · have := mSize_le g (tn v)
    rw [Int32.lt_iff_toInt_lt, nI_toI (by omega)]
    intro e
    have : (-1 : Int32).toInt = -1 := by decide
    omega
  · decide
theorem ne1 {n : Nat} (h : n < 1000) : ¬ (nI n = (-1 : Int32)) := by
  have h1 : ∀ n, n < 1000 → ¬ (nI n = (-1 : Int32)) := by decide +kernel
  exact h1 n h
theorem pI_c {g : mS} {f : Nat → Nat} {n r : Nat} (P : pI g f n) (hr : r < 8) : f (4 + r) ≤ 1 := by
  rcases P.2.2.2.2.1 r hr with ⟨_, e⟩ | ⟨s, _, _, e, _⟩ <;> omega
theorem pI_there {g : mS} {f : Nat → Nat} {n r : Nat} (P : pI g f n) (hr : r < 8) (h : 0 < f (4 + r)) : ∃ s, s < 2 ∧ mI g 20 r = nI s ∧ f (12 + r) = s := by
  rcases P.2.2.2.2.1 r hr with ⟨_, e⟩ | ⟨s, h1, h2, e, h3⟩
  · omega
  · exact ⟨s, h1, h2, h3⟩
theorem pI_none {g : mS} {f : Nat → Nat} {n r : Nat} (P : pI g f n) (hr : r < 8) (h : f (4 + r) = 0) : mI g 20 r = -1 := by
  rcases P.2.2.2.2.1 r hr with ⟨e, _⟩ | ⟨s, h1, h2, e, h3⟩
  · exact e
  · omega
theorem pI_tok {g g' : mS} {f : Nat → Nat} {n s w k r : Nat} (A : AI g) (P : pI g f n) (hs : s < 2) (hlt : mN g 1 s < 40) (hN : ∀ j i, j < 22 → mN g' j i = mN (tApp g s w k r) j i) (hB : ∀ j i, j < 22 → mB g' j i = mB (tApp g s w k r) j i) (hK : ∀ k, k ≠ 0 → mK g' k = mK g k) (hI : ∀ i, mI g' 20 i = mI g 20 i) : pI g' (uF f s (mN g 1 s + 1)) n := by
  obtain ⟨h1, h2, h3, h4, h5, h6, h7⟩ := P
  have n1 : ∀ i, mN g' 1 i = if i = s then mN g 1 s + 1 else mN g 1 i := fun i => by
    rw [hN 1 i (by decide), ta_N]
    by_cases c : i = s
    · rw [if_pos ⟨rfl, c⟩, if_pos c]
    · rw [if_neg (fun z => c z.2), if_neg c, if_neg (by omega), if_neg (by omega), if_neg (by omega), if_neg (by omega), if_neg (by omega)]
  have n3 : ∀ i, mN g' 3 i = if i = 40 * s + mN g 1 s then (if mN g 1 s = 0 then 0 else mN g 3 (40 * s + mN g 1 s - 1) + (mB g 5 s).toNat) else mN g 3 i := fun i => by
    rw [hN 3 i (by decide), ta_N, if_neg (by omega), if_neg (by omega)]
    by_cases c : i = 40 * s + mN g 1 s
    · rw [if_pos ⟨rfl, c⟩, if_pos c]
    · rw [if_neg (fun z => c z.2), if_neg c, if_neg (by omega), if_neg (by omega), if_neg (by omega)]
  have n4 : ∀ i, mN g' 4 i = if i = 40 * s + mN g 1 s then (if mN g 1 s = 0 then 0 else mN g 4 (40 * s + mN g 1 s - 1) + (mB g 6 s).toNat) else mN g 4 i := fun i => by
    rw [hN 4 i (by decide), ta_N, if_neg (by omega)]
    by_cases c : i = 40 * s + mN g 1 s
    · rw [if_pos ⟨rfl, c⟩, if_pos c]
    · rw [if_neg (fun z => c z.2), if_neg c, if_neg (by omega), if_neg (by omega), if_neg (by omega), if_neg (by omega)]
  have b5 : ∀ i, mB g' 5 i = if i = s then false else mB g 5 i := fun i => by
    rw [hB 5 i (by decide)]
    show (if 5 = 6 ∧ i = s then false else if 5 = 5 ∧ i = s then false else mB g 5 i) = _
    simp
  have b6 : ∀ i, mB g' 6 i = if i = s then false else mB g 6 i := fun i => by
    rw [hB 6 i (by decide)]
    show (if 6 = 6 ∧ i = s then false else if 6 = 5 ∧ i = s then false else mB g 6 i) = _
    simp
  have h40 := fun s hs => A.1.1 s hs
  refine ⟨fun q hq => ?_, ?_, ?_, ?_, fun q hq => ?_, ?_, fun q hq => ⟨fun k hk => ?_, ?_⟩⟩
  · rw [n1]
    by_cases c : q = s
    · subst c; rw [if_pos rfl, uF_s]
    · rw [if_neg c, uF_n c]; exact h1 q hq
  · rw [uF_n (by omega), hK 15 (by decide)]; exact h2
  · rw [uF_n (by omega), hK 40 (by decide)]; exact h3
  · rw [hK 16 (by decide)]; exact h4
  · rw [hI, uF_n (show 4 + q ≠ s by omega), uF_n (show 12 + q ≠ s by omega)]; exact h5 q hq
  · rw [uF_n (by omega)]; exact h6
  · have q40 := h40 q hq
    have s40 := h40 s hs
    rw [n1] at hk
    rw [n3, n3, n4, n4]
    by_cases c : q = s
    · subst c
      rw [if_pos rfl] at hk
      rw [if_neg (show ¬ 40 * q + k = 40 * q + mN g 1 q by omega), if_neg (show ¬ 40 * q + k = 40 * q + mN g 1 q by omega)]
      by_cases d : k + 1 = mN g 1 q
      · rw [if_pos (by omega), if_neg (by omega), if_pos (by omega), if_neg (by omega), show 40 * q + mN g 1 q - 1 = 40 * q + k by omega]
        refine ⟨by omega, fun z => ?_⟩
        have y : (mB g 5 q).toNat = 0 := by omega
        have y5 : mB g 5 q = false := by cases e : mB g 5 q with | false => rfl | true => (rw [e] at y; cases y)
        have y6 : mB g 6 q = false := by
          cases e : mB g 6 q with
          | false => rfl
          | true => have := (h7 q hq).2 e; rw [y5] at this; cases this
        rw [y6]; rfl
      · rw [if_neg (by omega), if_neg (by omega)]
        exact (h7 q hq).1 k (by omega)
    · rw [if_neg c] at hk
      rw [if_neg (by omega), if_neg (by omega), if_neg (by omega), if_neg (by omega)]
      exact (h7 q hq).1 k hk
  · rw [b5, b6]
    by_cases c : q = s
    · rw [if_pos c]; intro z; cases z
    · rw [if_neg c, if_neg c]; exact (h7 q hq).2
theorem tok_occ {g g' : mS} {s w k r : Nat} (h40 : mN g 1 s < 40) (hw : w < 100) (hN : ∀ j i, j < 22 → mN g' j i = mN (tApp g s w k r) j i) : mN g' 1 s = mN g 1 s + 1 ∧ 0 < nOccurs g' s 0 (nI w) (mN g' 1 s) ∧ nOccurs g' s 0 (nI w) (mN g' 1 s) < 1000 := by
  have n1 : mN g' 1 s = mN g 1 s + 1 := by rw [hN 1 s (by decide), ta_N, if_pos ⟨rfl, rfl⟩]
  have n2 : mVal g' s (mN g 1 s) 0 = w := by
    unfold mVal
    rw [hN 2 _ (by decide), ta_N, if_neg (by omega), if_neg (by omega), if_neg (by omega), if_neg (by omega), if_neg (by omega), if_pos ⟨rfl, rfl⟩]
  refine ⟨n1, ?_, ?_⟩
  · have := sumTo_part (f := fun p => if nI (mVal g' s p 0) = nI w then 1 else 0) (j := mN g 1 s) (k := mN g' 1 s) (by omega)
    replace this : (if nI (mVal g' s (mN g 1 s) 0) = nI w then 1 else 0) ≤ nOccurs g' s 0 (nI w) (mN g' 1 s) := this
    rw [n2, if_pos rfl] at this
    omega
  · have := sumTo_le (f := fun p => if nI (mVal g' s p 0) = nI w then 1 else 0) (c := 1) (k := mN g' 1 s) (fun j _ => by show (if _ then 1 else 0) ≤ 1; split <;> omega)
    unfold nOccurs
    omega
theorem x_occ {g g' : mS} (E : eqv g g') {s w : Nat} : nOccurs g' s 0 (nI w) (mN g' 1 s) = nOccurs g s 0 (nI w) (mN g 1 s) := by
  unfold nOccurs mVal
  rw [E.N (by decide)]
  exact sumTo_congr (fun j _ => by rw [E.N (by decide)])
theorem pI_end {g g' : mS} {f : Nat → Nat} {n s : Nat} {t : Bool} (P : pI g f n) (hN : ∀ j i, mN g' j i = mN g j i) (h5 : ∀ i, mB g' 5 i = if i = s then true else mB g 5 i) (h6 : ∀ i, mB g' 6 i = if i = s then (mB g 6 s || t) else mB g 6 i) (hK : ∀ k, k ≠ 0 → mK g' k = mK g k) (hI : ∀ i, mI g' 20 i = mI g 20 i) : pI g' f n := by
  obtain ⟨p1, p2, p3, p4, p5, p6, p7⟩ := P
  refine ⟨fun s hs => by rw [hN]; exact p1 s hs, by rw [hK 15 (by decide)]; exact p2, by rw [hK 40 (by decide)]; exact p3, by rw [hK 16 (by decide)]; exact p4, fun q hq => by rw [hI]; exact p5 q hq, p6, fun q hq => ⟨fun k hk => ?_, ?_⟩⟩
  · rw [hN] at hk
    rw [hN, hN, hN, hN]; exact (p7 q hq).1 k hk
  · rw [h5, h6]
    by_cases c : q = s
    · rw [if_pos c]; intro _; rw [if_pos c]
    · rw [if_neg c, if_neg c]; exact (p7 q hq).2
theorem a_cAlnE {g g' : mS} (I : mInv g) (S : sInv g) (h1 : ∀ i, mN g' 1 i = mN g 1 i) (h3 : ∀ i, mN g' 3 i = mN g 3 i) {p q : Nat} (hp : p < mN g 1 0) (hq : q < mN g 1 1) : cAlign g' (nI (mN g 3 (40 * 0 + p))) (nI (mN g 3 (40 * 1 + q))) = 0 := by
  have e : ∀ s, mSents g' s = mSents g s := fun s => by unfold mSents; rw [h1, h3]
  have := a_cAln I S hp hq
  unfold cAlign at this ⊢
  rw [e, e]; exact this
theorem pI_aln {g g' : mS} {f : Nat → Nat} {n v : Nat} (P : pI g f n) (hN : ∀ j i, j < 22 → j ≠ 7 → mN g' j i = mN g j i) (hB : ∀ j i, j < 22 → mB g' j i = mB g j i) (hK : mK g' 15 = mK g 15 ∧ mK g' 16 = mK g 16) (h40 : mK g' 40 = v) (hI : ∀ i, mI g' 20 i = mI g 20 i) : pI g' (uF f 3 v) n := by
  obtain ⟨p1, p2, p3, p4, p5, p6, p7⟩ := P
  refine ⟨fun s hs => by rw [hN 1 s (by decide) (by decide), uF_n (by omega)]; exact p1 s hs, by rw [hK.1, uF_n (by decide)]; exact p2, by rw [uF_s, h40], by rw [hK.2]; exact p4, fun q hq => by rw [hI, uF_n (show 4 + q ≠ 3 by omega), uF_n (show 12 + q ≠ 3 by omega)]; exact p5 q hq, by rw [uF_n (by decide)]; exact p6, sInv_c p7 (fun j i hj => hN j i (by omega) (by omega)) (fun j i hj => hB j i (by omega))⟩
theorem pI_aligned {g g' : mS} {f : Nat → Nat} {n : Nat} (P : pI g f n) (R : resR g g') (e : ∀ i, mI g' 20 i = mI g 20 i) : pI g' (uF f 20 (f 20 + 1)) (n + 1) := by
  obtain ⟨p1, p2, p3, p4, p5, p6, p7⟩ := pI_res P R e
  refine ⟨fun s hs => by rw [uF_n (by omega)]; exact p1 s hs, by rw [uF_n (by decide)]; exact p2, by rw [uF_n (by decide)]; exact p3, p4, fun q hq => by rw [uF_n (show 4 + q ≠ 20 by omega), uF_n (show 12 + q ≠ 20 by omega)]; exact p5 q hq, by rw [uF_s]; omega, p7⟩
theorem pI_drop {g g' : mS} {f : Nat → Nat} {n r : Nat} (hr : r < 8) (P : pI g f n) (R : resR g g') (e : ∀ i, mI g' 20 i = if i = r then -1 else mI g 20 i) : pI g' (uF f (4 + r) 0) n := by
  obtain ⟨h1, h2, h3, h4, h5, h6, h7⟩ := P
  refine ⟨fun s hs => ?_, ?_, ?_, ?_, fun q hq => ?_, ?_, sInv_c h7 (fun j i hj => R.2.1 j i (by omega) (by omega) (by omega) (by omega) (by omega)) (fun j i hj => R.2.2.1 j i (by omega) (by omega) (by omega))⟩
  · rw [uF_n (by omega), R.N1]; exact h1 s hs
  · rw [uF_n (by omega), R.1 15 (by decide) (by decide)]; exact h2
  · rw [uF_n (by omega), R.1 40 (by decide) (by decide)]; exact h3
  · rw [R.1 16 (by decide) (by decide)]; exact h4
  · rw [e, uF_n (show 12 + q ≠ 4 + r by omega)]
    by_cases c : q = r
    · rw [if_pos c, c, uF_s]; exact Or.inl ⟨rfl, rfl⟩
    · rw [if_neg c, uF_n (by omega)]; exact h5 q hq
  · rw [uF_n (by omega)]; exact h6
section TS
variable {G : eG} {x : CX} {ad : Nat → Nat → Nat} {g : mS} {f : Nat → Nat} {B : Nat} {pc nx : Nat} {lv : List (Nat × Value)} {st : List Value} {own : String} {cc : ByteArray} {rm : Room} {nL : Nat}
theorem p_tsIn (C : cxOk G own cc rm nL x) {dflt lo hi : Int} {offs : Array Int} {k tgt : Nat} {off : Int} {a : Int32} (d : dn cc pc (.tableswitch dflt lo hi offs) k nx) (h1 : ¬ a.toInt < lo) (h2 : ¬ hi < a.toInt) (ho : offs[(a.toInt - lo).toNat]? = some off) (ht : (pc : Int) + off = (tgt : Int)) (kk : VP G x ad g f rm B tgt lv st) : VP G x ad g f rm B pc lv (.int a :: st) := fun h n1 n2 w w1 w2 => r_tsIn C d h1 h2 ho ht (kk h n1 n2 w w1 w2)
theorem p_tsOut (C : cxOk G own cc rm nL x) {dflt lo hi : Int} {offs : Array Int} {k tgt : Nat} {a : Int32} (d : dn cc pc (.tableswitch dflt lo hi offs) k nx) (h1 : a.toInt < lo ∨ hi < a.toInt) (ht : (pc : Int) + dflt = (tgt : Int)) (kk : VP G x ad g f rm B tgt lv st) : VP G x ad g f rm B pc lv (.int a :: st) := fun h n1 n2 w w1 w2 => r_tsOut C d h1 ht (kk h n1 n2 w w1 w2)
end TS
