/-! the reference's rows from one state, the class's from another -/
def mrg (S c : mS) : mS := (fun k => if k < 23 then S.1 k else c.1 k, fun k i => if k < 23 then S.2.1 k i else c.2.1 k i, fun k i => if k < 23 then S.2.2.1 k i else c.2.2.1 k i, fun k i => if k < 23 then S.2.2.2 k i else c.2.2.2 k i)
theorem mg_K (S c : mS) (k : Nat) : mK (mrg S c) k = if k < 23 then mK S k else mK c k := rfl
theorem mg_N (S c : mS) (k i : Nat) : mN (mrg S c) k i = if k < 23 then mN S k i else mN c k i := rfl
theorem mg_B (S c : mS) (k i : Nat) : mB (mrg S c) k i = if k < 23 then mB S k i else mB c k i := rfl
theorem mg_I (S c : mS) (k i : Nat) : mI (mrg S c) k i = if k < 23 then mI S k i else mI c k i := rfl
theorem mo_mrg {G : eG} {q : Nat → Nat} {S c : mS} {h : hp} (m : mo G q S h) : mo G q (mrg S c) h := by
  refine ⟨m.1, fun k hk hk0 => ?_, m.2.2⟩
  rw [m.2.1 k hk hk0]
  have hlt : k < 23 := by omega
  unfold mcell
  simp only [mg_N, mg_B, mg_I, if_pos hlt]
/-- the rows that both have are the same in both states -/
def shr (S c : mS) : Prop := (mK S 15 = mK c 15 ∧ mK S 16 = mK c 16) ∧ (∀ j, (j = 1 ∨ j = 2 ∨ j = 3 ∨ j = 4 ∨ j = 21) → ∀ i, mN S j i = mN c j i) ∧ ∀ i, mB S 5 i = mB c 5 i ∧ mB S 6 i = mB c 6 i
theorem co_mrg {G : eG} {ad : Nat → Nat → Nat} {S c : mS} {h : hp} (m : co G ad c h) (e : shr S c) : co G ad (mrg S c) h := m.cong (fun k i hk => ce_cong hk ⟨fun _ => ⟨rfl, e.1.2, e.1.1⟩, fun _ => ⟨rfl, rfl, rfl⟩, fun _ => ⟨e.2.1 1 (by decide) i, (e.2.2 i).1, (e.2.2 i).2⟩, fun _ => ⟨rfl, rfl⟩⟩ ⟨fun _ _ => rfl, fun _ _ => rfl, fun _ _ _ => rfl, fun _ _ _ => rfl, fun _ j _ => e.2.1 2 (by decide) _, fun _ j _ => e.2.1 3 (by decide) _, fun _ j _ => e.2.1 4 (by decide) _, fun _ _ _ => rfl, fun _ j _ => e.2.1 21 (by decide) _⟩)
theorem mInv_mrg {S c : mS} (I : mInv S) : mInv (mrg S c) := I
/-- what holds between calls -/
def AI (g : mS) : Prop := mInv g ∧ rInv g ∧ pInv g ∧ aInv g ∧ wInv g ∧ mK g 40 = nPairs g 1600
theorem nPairs_cong {g g' : mS} (h : ∀ i, mN g' 7 i = mN g 7 i) (k : Nat) : nPairs g' k = nPairs g k := by
  unfold nPairs
  exact sumTo_congr (fun j _ => by rw [h])
/-- where only parts are changed -/
theorem AI_part {g g' : mS} (A : AI g) (I : mInv g') (e1 : ∀ i, mB g' 32 i = mB g 32 i) (e2 : ∀ i, mI g' 20 i = mI g 20 i) (e3 : ∀ j, (j = 54 ∨ j = 53 ∨ j = 7 ∨ j = 50) → ∀ i, mN g' j i = mN g j i) (e4 : mB g' 31 0 = mB g 31 0 ∧ mB g' 30 0 = mB g 30 0 ∧ mK g' 40 = mK g 40) : AI g' := by
  obtain ⟨_, J, P, Q, W, N⟩ := A
  refine ⟨I, fun r hr => ?_, fun i hi => ?_, fun a b ha hb => ?_, ⟨by rw [e4.1, e4.2.1]; exact W.1, fun z hz => ?_⟩, by rw [e4.2.2, nPairs_cong (e3 7 (by decide))]; exact N⟩
  · rw [e1, e2, e3 54 (by decide)]; exact J r hr
  · rw [e3 53 (by decide)]; exact P i hi
  · rw [e3 53 (by decide), e3 7 (by decide), e3 53 (by decide)]; exact Q a b ha hb
  · rw [e3 50 (by decide)]; exact W.2 z hz
theorem lnk_top {G : eG} {ad : Nat → Nat → Nat} {h h9 : hp} {g g' : mS} {T T' : Nat → tC3} {X Y : Nat → pA} {m : Nat} {y : pA} (k : lnk G ad h g T X Y) (c : cfr ad h h9) (hm : m ≤ mK g 16) (h15 : mK g 15 ≤ 12) (eK : mK g' 16 = m + 1) (e15 : mK g' 15 = mK g 15) (e60 : ∀ i, i < m → mN g' 60 i = mN g 60 i) (e61 : ∀ p, mN g' 61 p = mN g 61 p) (eP : ∀ p, p < 12 ∨ (12 ≤ p ∧ p < 12 + m) → mN g' 8 p = mN g 8 p ∧ mB g' 9 p = mB g 9 p ∧ (∀ w, w < 256 → mB g' 10 (256 * p + w) = mB g 10 (256 * p + w)) ∧ ∀ j, j < 8 → tcM g' (8 * p + j) = tcM g (8 * p + j)) (hT : ∀ b, h b ≠ none → T' b = T b) (n : pk1 G ad h9 g' T' (12 + m) (mN g' 60 m) y (mB g' 9 (12 + m))) : lnk G ad h9 g' T' (fun i => if i = m then y else X i) Y := by
  have ht : ∀ {p a1 : Nat} {y : pA} {is : Bool}, pk1 G ad h g T p a1 y is → ∀ j, j < y.1 → T' (y.2.2.2.2.2.2 j) = T (y.2.2.2.2.2.2 j) := fun q j hj => hT _ (fun z => by
    obtain ⟨_, _, _, e, _⟩ := q.2.2.1 j hj
    rw [z] at e; cases e)
  refine ⟨fun i hi => ?_, fun p hp => ?_⟩
  · show pk1 G ad h9 g' T' (12 + i) (mN g' 60 i) (if i = m then y else X i) (mB g' 9 (12 + i))
    by_cases e : i = m
    · rw [if_pos e, e]; exact n
    · rw [if_neg e]
      have q := k.1 i (by omega)
      obtain ⟨x1, x2, x3, x4⟩ := eP (12 + i) (by omega)
      exact (q.mv c).to (e60 i (by omega)) x2 x1 x3 x4 (ht q)
  · rw [e15] at hp
    obtain ⟨is, q⟩ := k.2 p hp
    obtain ⟨x1, x2, x3, x4⟩ := eP p (by omega)
    exact ⟨is, (q.mv c).to (e61 p) rfl x1 x3 x4 (ht q)⟩
theorem mTests_eq {S S' : mS} {m : Nat} (hK : mK S' 16 = m) (h : ∀ i, i < m → mN S' 8 (12 + i) = mN S 8 (12 + i)) : mTests S' = sumTo (fun k => mN S 8 (12 + k)) m := by
  unfold mTests; rw [hK]; exact sumTo_congr h
theorem mTests_lt {S : mS} {m : Nat} (h : m ≤ mK S 16) : sumTo (fun k => mN S 8 (12 + k)) m ≤ mTests S := by
  have := sumTo_ge (f := fun k => mN S 8 (12 + k)) (a := m) (mK S 16 - m)
  rw [show m + (mK S 16 - m) = mK S 16 by omega] at this
  exact this
/-- a new part on the reference's pile, behind m others -/
theorem mInv_top {S S' : mS} (I : mInv S) {m n : Nat} (hm : m ≤ mK S 16) (hm8 : m < 8) (hK : mK S' 16 = m + 1 ∧ mK S' 15 = mK S 15) (hn : 1 ≤ n ∧ n ≤ 8 ∧ sumTo (fun k => mN S 8 (12 + k)) m + n ≤ 8) (h8 : mN S' 8 (12 + m) = n) (eP : ∀ p, p ≠ 12 + m → mN S' 8 p = mN S 8 p ∧ mB S' 9 p = mB S 9 p ∧ ∀ w, w < 256 → mB S' 10 (256 * p + w) = mB S 10 (256 * p + w)) (hw : (∀ w, w < 256 → mB S' 10 (256 * (12 + m) + w) = true → w < 2 ^ n) ∧ (mB S' 9 (12 + m) = true → n = 1 ∧ ∀ w, w < 256 → mB S' 10 (256 * (12 + m) + w) = decide (w = 1))) (h12 : ∀ i, i < 1008 → mN S' 12 i < 1125899906842624) (h13 : ∀ i, i < 168 → mN S' 13 i < 8) (h14 : ∀ i, i < 168 → mN S' 14 i < 512) (eN : ∀ j, (j = 1 ∨ j = 2 ∨ j = 3 ∨ j = 4 ∨ j = 7 ∨ j = 21) → ∀ i, mN S' j i = mN S j i) (eI : ∀ i, mI S' 20 i = mI S 20 i) : mInv S' := by
  obtain ⟨a1, a2, a3, a4, a5, a6, a7, a8, a9, a10, a11, a12, a13, a14, a15, a16⟩ := I
  have hs : mTests S' = sumTo (fun k => mN S 8 (12 + k)) m + n := by
    unfold mTests
    rw [hK.1, sumTo, h8]
    congr 1
    exact sumTo_congr (fun j hj => (eP (12 + j) (by omega)).1)
  refine ⟨fun s hs => by rw [eN 1 (by decide)]; exact a1 s hs, fun i hi => by rw [eN 2 (by decide)]; exact a2 i hi, fun i hi => by rw [eN 3 (by decide)]; exact a3 i hi, fun i hi => by rw [eN 4 (by decide)]; exact a4 i hi, fun i hi => by rw [eN 7 (by decide)]; exact a5 i hi, fun p hp => ?_, h12, h13, h14, by rw [hK.2]; exact a10, by rw [hK.1]; exact hm8, by rw [hs]; exact hn.2.2, fun r hr => by rw [eI]; exact a13 r hr, fun i hi => by rw [eN 21 (by decide)]; exact a14 i hi, fun r s hr hs he k hk z hz hb => ?_, fun p hp => ?_⟩
  · by_cases e : p = 12 + m
    · rw [e, h8]; exact hn.2.1
    · rw [(eP p e).1]; exact a6 p hp
  · rw [eI] at he
    rw [eN 21 (by decide)] at hb
    rw [eN 1 (by decide)]
    exact a15 r s hr hs he k hk z hz hb
  · by_cases e : p = 12 + m
    · subst e
      rw [h8]; exact ⟨hn.1, hw⟩
    · obtain ⟨x1, x2, x3⟩ := eP p e
      obtain ⟨b1, b2, b3⟩ := a16 p (by rw [hK.2, hK.1] at hp; omega)
      rw [x1]
      refine ⟨b1, fun w hw hb => b2 w hw (by rw [← x3 w hw]; exact hb), fun hb => ?_⟩
      rw [x2] at hb
      obtain ⟨c1, c2⟩ := b3 hb
      exact ⟨c1, fun w hw => by rw [x3 w hw]; exact c2 w hw⟩
theorem tcM_congr {g g' : mS} {t u : Nat} (h1 : ∀ k, k < 3 → mI g' 11 (3 * u + k) = mI g 11 (3 * t + k)) (h2 : ∀ k, k < 6 → mN g' 12 (6 * u + k) = mN g 12 (6 * t + k)) (h3 : mN g' 13 u = mN g 13 t) (h4 : mN g' 14 u = mN g 14 t) : tcM g' u = tcM g t := by
  unfold tcM
  rw [h3, h4]
  congr 1
  · funext k; split
    · exact h1 k (by assumption)
    · rfl
  · congr 1
    funext k; split
    · exact h2 k (by assumption)
    · rfl
/-- the class's pile, after some are taken and one is put -/
theorem psh_60 {g : mS} {c a i : Nat} : mN (psh (poS g c) a) 60 i = if i = mK g 16 - c then a + 1 else if mK g 16 - c ≤ i ∧ i < mK g 16 then 0 else mN g 60 i := by
  have e0 : mN (psh (poS g c) a) 60 i = mN (uN (poS g c) 60 (mK g 16 - c) (a + 1)) 60 i := rfl
  rw [e0, mN_uN, show mN (poS g c) 60 i = mN (sN g 60 (poF g c)) 60 i from rfl, mN_sN, if_pos (rfl : (60:Nat) = 60)]
  unfold poF
  by_cases e : i = mK g 16 - c
  · rw [if_pos (show (60:Nat) = 60 ∧ i = mK g 16 - c from ⟨rfl, e⟩), if_pos e]
  · rw [if_neg (show ¬ ((60:Nat) = 60 ∧ i = mK g 16 - c) from fun q => e q.2), if_neg e]
theorem psh_N {g : mS} {c a j i : Nat} (h : j ≠ 60) : mN (psh (poS g c) a) j i = mN g j i := by
  show (if j = 60 ∧ i = mK g 16 - c then a + 1 else mN (sN g 60 (poF g c)) j i) = _
  rw [if_neg (fun q => h q.1), mN_sN, if_neg h]
theorem psh_K {g : mS} {c a j : Nat} : mK (psh (poS g c) a) j = if j = 16 then mK g 16 - c + 1 else mK g j := by
  show (if j = 16 then mK g 16 - c + 1 else if j = 16 then mK g 16 - c else mK g j) = _
  split <;> rfl
theorem psh_0 {g : mS} {a : Nat} : psh g a = psh (poS g 0) a := by rw [← po_init]
/-- one step of the pile: the reference's state S', the class's psh (poS g c) a -/
theorem pile_step {G : eG} {ad : Nat → Nat → Nat} {h h9 : hp} {g S' : mS} {T T' : Nat → tC3} {X Y : Nat → pA} {c a n : Nat} {y : pA} (A : AI g) (k : lnk G ad h g T X Y) (F : cfr ad h h9) (hc : c ≤ mK g 16) (hm8 : mK g 16 - c < 8) (hK : mK S' 16 = mK g 16 - c + 1 ∧ mK S' 15 = mK g 15) (hn : 1 ≤ n ∧ n ≤ 8 ∧ sumTo (fun k => mN g 8 (12 + k)) (mK g 16 - c) + n ≤ 8) (h8 : mN S' 8 (12 + (mK g 16 - c)) = n) (eP : ∀ p, p ≠ 12 + (mK g 16 - c) → mN S' 8 p = mN g 8 p ∧ mB S' 9 p = mB g 9 p ∧ ∀ w, w < 256 → mB S' 10 (256 * p + w) = mB g 10 (256 * p + w)) (eT : ∀ p, p < 12 ∨ (12 ≤ p ∧ p < 12 + (mK g 16 - c)) → ∀ j, j < 8 → tcM S' (8 * p + j) = tcM g (8 * p + j)) (hw : (∀ w, w < 256 → mB S' 10 (256 * (12 + (mK g 16 - c)) + w) = true → w < 2 ^ n) ∧ (mB S' 9 (12 + (mK g 16 - c)) = true → n = 1 ∧ ∀ w, w < 256 → mB S' 10 (256 * (12 + (mK g 16 - c)) + w) = decide (w = 1))) (h12 : ∀ i, i < 1008 → mN S' 12 i < 1125899906842624) (h13 : ∀ i, i < 168 → mN S' 13 i < 8) (h14 : ∀ i, i < 168 → mN S' 14 i < 512) (eN : ∀ j, (j = 1 ∨ j = 2 ∨ j = 3 ∨ j = 4 ∨ j = 7 ∨ j = 21) → ∀ i, mN S' j i = mN g j i) (eB : ∀ i, mB S' 5 i = mB g 5 i ∧ mB S' 6 i = mB g 6 i) (eI : ∀ i, mI S' 20 i = mI g 20 i) (hT : ∀ b, h b ≠ none → T' b = T b) (hp : prA G ad h9 a y (mB S' 9 (12 + (mK g 16 - c)))) (ht : ∀ j, j < y.1 → tst G ad h9 (y.2.2.2.2.2.2 j) (T' (y.2.2.2.2.2.2 j)).1 (T' (y.2.2.2.2.2.2 j)).2.1 (T' (y.2.2.2.2.2.2 j)).2.2) (hR : pkR S' (12 + (mK g 16 - c)) y T') : shr S' (psh (poS g c) a) ∧ AI (mrg S' (psh (poS g c) a)) ∧ lnk G ad h9 (mrg S' (psh (poS g c) a)) T' (fun i => if i = mK g 16 - c then y else X i) Y := by
  have I := A.1
  have I' := mInv_top (m := mK g 16 - c) I (by omega) hm8 hK hn h8 eP hw h12 h13 h14 eN eI
  refine ⟨⟨⟨by rw [hK.2, psh_K, if_neg (by decide)], by rw [hK.1, psh_K, if_pos rfl]⟩, fun j hj i => by rw [eN j (by omega), psh_N (by omega)], eB⟩, AI_part A I' (fun _ => rfl) eI (fun j hj i => ?_) ⟨rfl, rfl, rfl⟩, ?_⟩
  · rw [mg_N]
    rcases hj with e | e | e | e <;> subst e
    · rw [if_neg (by decide), psh_N (by decide)]
    · rw [if_neg (by decide), psh_N (by decide)]
    · rw [if_pos (by decide)]; exact eN 7 (by decide) i
    · rw [if_neg (by decide), psh_N (by decide)]
  · have tc : ∀ t, tcM (mrg S' (psh (poS g c) a)) t = tcM S' t := fun t => rfl
    refine lnk_top (m := mK g 16 - c) k F (by omega) (pats_le I) hK.1 hK.2 (fun i hi => ?_) (fun p => ?_) (fun p hp => ⟨(eP p (by omega)).1, (eP p (by omega)).2.1, (eP p (by omega)).2.2, fun j hj => by rw [tc]; exact eT p hp j hj⟩) hT ?_
    · rw [mg_N, if_neg (by decide), psh_60, if_neg (by omega), if_neg (by omega)]
    · rw [mg_N, if_neg (by decide), psh_N (by decide)]
    · rw [mg_N, if_neg (by decide), psh_60, if_pos rfl]
      exact ⟨by omega, hp, ht, pkR_mv (T' := T') hR rfl (fun _ _ => rfl) (fun _ _ => rfl) (fun _ _ => rfl)⟩

