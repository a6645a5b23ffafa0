/-! label, both: a step on both sides -/
theorem botP_lt {P Q : Nat → Nat} {i : Nat} (h : ∀ i, i < 6 → P i < 18446744073709551616) (hi : i < 6) : botP P Q i < 18446744073709551616 := by
  unfold botP; rw [if_pos hi]; exact Nat.lt_of_le_of_lt Nat.and_le_left (h i hi)
theorem sum_top {f : Nat → Nat} {k c : Nat} (h : c < k) : sumTo f (k - (c + 1)) + f (k - (c + 1)) ≤ sumTo f k := by
  have := sumTo_ge (f := f) (a := k - (c + 1) + 1) c
  rw [show k - (c + 1) + 1 + c = k by omega, sumTo] at this
  exact this
/-- a test on the reference's pile -/
theorem isT {g : mS} (I : mInv g) {p : Nat} (hp : 12 ≤ p ∧ p < 12 + mK g 16) (h : mB g 9 p = true) : mN g 8 p = 1 ∧ ∀ w, w < 256 → mB g 10 (256 * p + w) = decide (w = 1) := (I.2.2.2.2.2.2.2.2.2.2.2.2.2.2.2 p (Or.inr hp)).2.2 h
/-- where a test takes the place of those above m -/
theorem one_step {G : eG} {ad : Nat → Nat → Nat} {h h9 : hp} {g S' : mS} {T : Nat → tC3} {X Y : Nat → pA} {a t c : Nat} {d : tC3} (A : AI g) (k : lnk G ad h g T X Y) (F : cfr ad h h9) (hc : 1 ≤ c ∧ c ≤ mK g 16) (h9t : mB g 9 (12 + (mK g 16 - c)) = true) (hK : mK S' 16 = mK g 16 - c + 1 ∧ mK S' 15 = mK g 15) (hB : ∀ j i, mB S' j i = mB g j i) (hN : ∀ j i, j ≠ 12 → j ≠ 13 → j ≠ 14 → mN S' j i = mN g j i) (hI : ∀ j i, j ≠ 11 → mI S' j i = mI g j i) (h12 : ∀ i, ¬ (48 * (12 + (mK g 16 - c)) ≤ i ∧ i < 48 * (12 + (mK g 16 - c)) + 6) → mN S' 12 i = mN g 12 i) (h12' : ∀ k, k < 6 → mN S' 12 (6 * (8 * (12 + (mK g 16 - c))) + k) < 1125899906842624) (h13 : ∀ i, i ≠ 8 * (12 + (mK g 16 - c)) → mN S' 13 i = mN g 13 i) (h13' : mN S' 13 (8 * (12 + (mK g 16 - c))) < 8) (h14 : ∀ i, i ≠ 8 * (12 + (mK g 16 - c)) → mN S' 14 i = mN g 14 i) (h14' : mN S' 14 (8 * (12 + (mK g 16 - c))) < 512) (h11 : ∀ i, ¬ (24 * (12 + (mK g 16 - c)) ≤ i ∧ i < 24 * (12 + (mK g 16 - c)) + 3) → mI S' 11 i = mI g 11 i) (hnew : h t = none) (hp : prA G ad h9 a (1, 1, 1, rsF d.2.1 9, false, (fun _ => 0), fun _ => t) true) (ht : tst G ad h9 t d.1 d.2.1 d.2.2) (hR : tRl d (tcM S' (8 * (12 + (mK g 16 - c))))) (hP : ∀ i, i < 6 → d.1 i < 18446744073709551616) (hs : d.2.1 < 512) (hl : d.2.2 < 8) : shr S' (psh (poS g c) a) ∧ AI (mrg S' (psh (poS g c) a)) ∧ ∃ T' X', lnk G ad h9 (mrg S' (psh (poS g c) a)) T' X' Y := by
  have I := A.1
  have h15 := pats_le I
  have h16 := pile_le I
  obtain ⟨n1, ew⟩ := isT I (by omega) h9t
  have e9 : mB S' 9 (12 + (mK g 16 - c)) = true := by rw [hB]; exact h9t
  have ew' : ∀ w, w < 256 → mB S' 10 (256 * (12 + (mK g 16 - c)) + w) = decide (w = 1) := fun w hw => by rw [hB]; exact ew w hw
  have e8 : mN S' 8 (12 + (mK g 16 - c)) = 1 := by rw [hN 8 _ (by decide) (by decide) (by decide)]; exact n1
  have hT : (fun b => if b = t then d else T b) t = d := by simp
  have hsum := sum_top (f := fun k => mN g 8 (12 + k)) (k := mK g 16) (c := c - 1) (by omega)
  rw [show c - 1 + 1 = c by omega] at hsum
  have hT8 : sumTo (fun k => mN g 8 (12 + k)) (mK g 16) ≤ 8 := mTests_le I
  replace hsum : sumTo (fun k => mN g 8 (12 + k)) (mK g 16 - c) + mN g 8 (12 + (mK g 16 - c)) ≤ sumTo (fun k => mN g 8 (12 + k)) (mK g 16) := hsum
  rw [n1] at hsum
  have q := pile_step (c := c) (a := a) (n := 1) (y := (1, 1, 1, rsF d.2.1 9, false, (fun _ => 0), fun _ => t)) (S' := S') (T' := fun b => if b = t then d else T b) A k F hc.2 (by omega) hK ⟨Nat.le_refl _, by decide, by omega⟩ e8 (fun p hp => ⟨hN 8 _ (by decide) (by decide) (by decide), hB _ _, fun w hw => hB _ _⟩) (fun p hp j hj => tcM_congr (fun k hk => h11 _ (by omega)) (fun k hk => h12 _ (by omega)) (h13 _ (by omega)) (h14 _ (by omega))) ⟨fun w hw hb => by rw [ew' w hw] at hb; have := of_decide_eq_true hb; omega, fun _ => ⟨rfl, ew'⟩⟩ (fun i hi => by
      by_cases z : 48 * (12 + (mK g 16 - c)) ≤ i ∧ i < 48 * (12 + (mK g 16 - c)) + 6
      · have := h12' (i - 48 * (12 + (mK g 16 - c))) (by omega)
        rw [show 6 * (8 * (12 + (mK g 16 - c))) + (i - 48 * (12 + (mK g 16 - c))) = i by omega] at this; exact this
      · rw [h12 i z]; exact I.2.2.2.2.2.2.1 i hi) (fun i hi => by
      by_cases z : i = 8 * (12 + (mK g 16 - c))
      · rw [z]; exact h13'
      · rw [h13 i z]; exact I.2.2.2.2.2.2.2.1 i hi) (fun i hi => by
      by_cases z : i = 8 * (12 + (mK g 16 - c))
      · rw [z]; exact h14'
      · rw [h14 i z]; exact I.2.2.2.2.2.2.2.2.1 i hi) (fun j hj i => hN j _ (by omega) (by omega) (by omega)) (fun i => ⟨hB _ _, hB _ _⟩) (fun i => hI 20 _ (by decide)) (fun b hb => by
      show (if b = t then d else T b) = T b
      rw [if_neg (fun z => hb (by rw [z]; exact hnew))]) (by rw [e9]; exact hp) (fun j hj => by
      show tst G ad h9 t ((fun b => if b = t then d else T b) t).1 ((fun b => if b = t then d else T b) t).2.1 ((fun b => if b = t then d else T b) t).2.2
      rw [hT]; exact ht) (pkR_one hT e8 ew' hR hP hs hl)
  exact ⟨q.1, q.2.1, _, _, q.2.2⟩
theorem step_label {G : eG} {ad : Nat → Nat → Nat} {h h9 : hp} {g : mS} {T : Nat → tC3} {X Y : Nat → pA} {a t : Nat} {lab : Int32} {d : tC3} (A : AI g) (k : lnk G ad h g T X Y) (F : cfr ad h h9) (c0 : cLabel g lab = 0) (hd : T ((X (mK g 16 - 1 - 0)).2.2.2.2.2.2 0) = d) (hnew : h t = none) (hp : prA G ad h9 a (1, 1, 1, rsF d.2.1 9, false, (fun _ => 0), fun _ => t) true) (ht : tst G ad h9 t (botP d.1 d.1) d.2.1 (d.2.2 ||| 2 ^ tn lab)) : shr (tLabel g lab) (psh (poS g 1) a) ∧ AI (mrg (tLabel g lab) (psh (poS g 1) a)) ∧ ∃ T' X', lnk G ad h9 (mrg (tLabel g lab) (psh (poS g 1) a)) T' X' Y := by
  obtain ⟨z1, z2⟩ := cLabel_0 c0
  obtain ⟨z3, z4⟩ := canL_of z2
  obtain ⟨-, -, s1⟩ := inR_of z1 (by decide) (by decide)
  have I := A.1
  rw [show mK g 16 - 1 - 0 = mK g 16 - 1 by omega] at hd
  rw [show 12 + mK g 16 - 1 = 12 + (mK g 16 - 1) by omega] at z4
  have q := (k.1 (mK g 16 - 1) (by omega)).2.2.2
  have q0 := q.2.2.1 0 (by have := q.2.1.1.1; omega)
  rw [hd, Nat.add_zero] at q0
  have e13 : ∀ j i, mN (uN (uK g 0 0) 13 (8 * (12 + (mK g 16 - 1))) (mN g 13 (8 * (12 + (mK g 16 - 1))) ||| 2 ^ tn lab)) j i = if j = 13 ∧ i = 8 * (12 + (mK g 16 - 1)) then mN g 13 (8 * (12 + (mK g 16 - 1))) ||| 2 ^ tn lab else mN g j i := fun j i => mN_uN _ _ _ _ _ _
  have hp8 : (2:Nat) ^ tn lab < 8 := by
    have : (2:Nat) ^ tn lab ≤ 2 ^ 2 := Nat.pow_le_pow_right (by decide) (by omega)
    omega
  have h16 := pile_le I
  rw [show tLabel g lab = uN (uK g 0 0) 13 (8 * (12 + (mK g 16 - 1))) (mN g 13 (8 * (12 + (mK g 16 - 1))) ||| 2 ^ tn lab) by rw [tLabel, if_pos c0, show 12 + mK g 16 - 1 = 12 + (mK g 16 - 1) by omega]]
  refine one_step (c := 1) (d := (botP d.1 d.1, d.2.1, d.2.2 ||| 2 ^ tn lab)) A k F ⟨by omega, by omega⟩ z4 ⟨by show mK g 16 = _; omega, rfl⟩ (fun _ _ => rfl) (fun j i _ h _ => by rw [e13, if_neg (by omega)]) (fun _ _ _ => rfl) (fun i hi => by rw [e13, if_neg (by omega)]) (fun k hk => by rw [e13, if_neg (by omega)]; exact I.2.2.2.2.2.2.1 _ (by omega)) (fun i hi => by rw [e13, if_neg (by omega)]) (by rw [e13, if_pos ⟨rfl, rfl⟩]; exact or_lt (n := 3) (I.2.2.2.2.2.2.2.1 _ (by omega)) hp8) (fun i hi => by rw [e13, if_neg (by omega)]) (by rw [e13, if_neg (by omega)]; exact I.2.2.2.2.2.2.2.2.1 _ (by omega)) (fun i hi => rfl) hnew hp ht ?_ (fun i hi => botP_lt q0.2.1 hi) q0.2.2.1 (or_lt (n := 3) q0.2.2.2 hp8)
  have e := tR_lab (e := 2 ^ tn lab) q0.1 (P := botP d.1 d.1) (fun i hi => by unfold botP; rw [if_pos hi, Nat.and_self])
  have e2 : tcM (uN (uK g 0 0) 13 (8 * (12 + (mK g 16 - 1))) (mN g 13 (8 * (12 + (mK g 16 - 1))) ||| 2 ^ tn lab)) (8 * (12 + (mK g 16 - 1))) = ((tcM g (8 * (12 + (mK g 16 - 1)))).1, (tcM g (8 * (12 + (mK g 16 - 1)))).2.1, (tcM g (8 * (12 + (mK g 16 - 1)))).2.2.1 ||| 2 ^ tn lab, (tcM g (8 * (12 + (mK g 16 - 1)))).2.2.2) := by
    unfold tcM
    rw [e13, if_pos ⟨rfl, rfl⟩, e13, if_neg (by omega)]
    congr 1
  rw [e2]; exact e
theorem bo_N (g : mS) (a o j i : Nat) : mN (boE (uK g 0 0) a o) j i = if j = 14 ∧ i = a then mN g 14 a ||| mN g 14 o else if j = 13 ∧ i = a then mN g 13 a ||| mN g 13 o else if j = 12 then (if 6 * a ≤ i ∧ i < 6 * a + 6 then mN g 12 i ||| mN g 12 (6 * o + (i - 6 * a)) else mN g 12 i) else mN g j i := by
  unfold boE boL
  simp only [mK_uK, mN_uK, mB_uK, mI_uK, mK_uN, mN_uN, mB_uN, mI_uN, mK_uB, mN_uB, mB_uB, mI_uB, mK_uI, mN_uI, mB_uI, mI_uI, mK_sN, mN_sN, mB_sN, mI_sN, mK_sB, mN_sB, mB_sB, mI_sB, mK_sI, mN_sI, mB_sI, mI_sI]
theorem bo_I (g : mS) (a o j i : Nat) : mI (boE (uK g 0 0) a o) j i = if j = 11 then (if 3 * a ≤ i ∧ i < 3 * a + 3 then vJoin (mI g 11 i) (mI g 11 (3 * o + (i - 3 * a))) else mI g 11 i) else mI g j i := by
  unfold boE boL
  simp only [mK_uK, mN_uK, mB_uK, mI_uK, mK_uN, mN_uN, mB_uN, mI_uN, mK_uB, mN_uB, mB_uB, mI_uB, mK_uI, mN_uI, mB_uI, mI_uI, mK_sN, mN_sN, mB_sN, mI_sN, mK_sB, mN_sB, mB_sB, mI_sB, mK_sI, mN_sI, mB_sI, mI_sI]
theorem step_both {G : eG} {ad : Nat → Nat → Nat} {h h9 : hp} {g : mS} {T : Nat → tC3} {X Y : Nat → pA} {a t : Nat} {d e : tC3} (A : AI g) (k : lnk G ad h g T X Y) (F : cfr ad h h9) (c0 : cBoth g = 0) (hd : T ((X (mK g 16 - 1 - 1)).2.2.2.2.2.2 0) = d) (he : T ((X (mK g 16 - 1 - 0)).2.2.2.2.2.2 0) = e) (hnew : h t = none) (hp : prA G ad h9 a (1, 1, 1, rsF (d.2.1 ||| e.2.1) 9, false, (fun _ => 0), fun _ => t) true) (ht : tst G ad h9 t (botP d.1 e.1) (d.2.1 ||| e.2.1) (d.2.2 ||| e.2.2)) : shr (tBoth g) (psh (poS g 2) a) ∧ AI (mrg (tBoth g) (psh (poS g 2) a)) ∧ ∃ T' X', lnk G ad h9 (mrg (tBoth g) (psh (poS g 2) a)) T' X' Y := by
  have cb : canB g = true := by
    refine Classical.byContradiction fun z => ?_
    rw [cBoth, if_neg z] at c0; cases c0
  obtain ⟨z3, z4, z5⟩ := canB_of cb
  have I := A.1
  have h16 := pile_le I
  rw [show mK g 16 - 1 - 1 = mK g 16 - 2 by omega] at hd
  rw [show mK g 16 - 1 - 0 = mK g 16 - 1 by omega] at he
  rw [show 12 + mK g 16 - 2 = 12 + (mK g 16 - 2) by omega] at z5
  have q := (k.1 (mK g 16 - 2) (by omega)).2.2.2
  have q0 := q.2.2.1 0 (by have := q.2.1.1.1; omega)
  rw [hd, Nat.add_zero] at q0
  have p := (k.1 (mK g 16 - 1) (by omega)).2.2.2
  have p0 := p.2.2.1 0 (by have := p.2.1.1.1; omega)
  rw [he, Nat.add_zero] at p0
  have eS : tBoth g = uK (boE (uK g 0 0) (8 * (12 + (mK g 16 - 2))) (8 * (12 + (mK g 16 - 1)))) 16 (mK g 16 - 1) := by
    rw [tBoth, if_pos c0, show 12 + mK g 16 - 2 = 12 + (mK g 16 - 2) by omega, show 12 + mK g 16 - 1 = 12 + (mK g 16 - 1) by omega]
  have eN : ∀ j i, mN (tBoth g) j i = mN (boE (uK g 0 0) (8 * (12 + (mK g 16 - 2))) (8 * (12 + (mK g 16 - 1)))) j i := fun j i => by rw [eS]; rfl
  have eI : ∀ j i, mI (tBoth g) j i = mI (boE (uK g 0 0) (8 * (12 + (mK g 16 - 2))) (8 * (12 + (mK g 16 - 1)))) j i := fun j i => by rw [eS]; rfl
  have b12 := fun i (hi : i < 1008) => I.2.2.2.2.2.2.1 i hi
  refine one_step (c := 2) (d := (botP d.1 e.1, d.2.1 ||| e.2.1, d.2.2 ||| e.2.2)) A k F ⟨by omega, by omega⟩ z5 ⟨by rw [eS]; show mK g 16 - 1 = _; omega, by rw [eS]; rfl⟩ (fun _ _ => by rw [eS]; rfl) (fun j i h1 h2 h3 => by rw [eN, bo_N, if_neg (by omega), if_neg (by omega), if_neg h1]) (fun j i h1 => by rw [eI, bo_I, if_neg h1]) (fun i hi => by rw [eN, bo_N, if_neg (by omega), if_neg (by omega), if_pos rfl, if_neg (by omega)]) (fun k hk => by rw [eN, bo_N, if_neg (by omega), if_neg (by omega), if_pos rfl, if_pos (by omega)]; exact or_lt (n := 50) (b12 _ (by omega)) (b12 _ (by omega))) (fun i hi => by rw [eN, bo_N, if_neg (by omega), if_neg (by omega), if_neg (by omega)]) (by rw [eN, bo_N, if_neg (by omega), if_pos ⟨rfl, rfl⟩]; exact or_lt (n := 3) (I.2.2.2.2.2.2.2.1 _ (by omega)) (I.2.2.2.2.2.2.2.1 _ (by omega))) (fun i hi => by rw [eN, bo_N, if_neg (by omega), if_neg (by omega), if_neg (by omega)]) (by rw [eN, bo_N, if_pos ⟨rfl, rfl⟩]; exact or_lt (n := 9) (I.2.2.2.2.2.2.2.2.1 _ (by omega)) (I.2.2.2.2.2.2.2.2.1 _ (by omega))) (fun i hi => by rw [eI, bo_I, if_pos rfl, if_neg (by omega)]) hnew hp ht (tR_both q0.1 p0.1 (fun a ha => ?_) (fun i hi => ?_) ?_ ?_) (fun i hi => botP_lt q0.2.1 hi) (or_lt (n := 9) q0.2.2.1 p0.2.2.1) (or_lt (n := 3) q0.2.2.2 p0.2.2.2)
  · show (if a < 3 then mI (tBoth g) 11 (3 * (8 * (12 + (mK g 16 - 2))) + a) else 0) = vJoin (if a < 3 then mI g 11 (3 * (8 * (12 + (mK g 16 - 2))) + a) else 0) (if a < 3 then mI g 11 (3 * (8 * (12 + (mK g 16 - 1))) + a) else 0)
    rw [if_pos ha, if_pos ha, if_pos ha, eI, bo_I, if_pos rfl, if_pos (by omega), Nat.add_sub_cancel_left]
  · show (if i < 6 then mN (tBoth g) 12 (6 * (8 * (12 + (mK g 16 - 2))) + i) else 0) = (if i < 6 then mN g 12 (6 * (8 * (12 + (mK g 16 - 2))) + i) else 0) ||| (if i < 6 then mN g 12 (6 * (8 * (12 + (mK g 16 - 1))) + i) else 0)
    rw [if_pos hi, if_pos hi, if_pos hi, eN, bo_N, if_neg (by omega), if_neg (by omega), if_pos rfl, if_pos (by omega), Nat.add_sub_cancel_left]
  · show mN (tBoth g) 13 (8 * (12 + (mK g 16 - 2))) = mN g 13 (8 * (12 + (mK g 16 - 2))) ||| mN g 13 (8 * (12 + (mK g 16 - 1)))
    rw [eN, bo_N, if_neg (by omega), if_pos ⟨rfl, rfl⟩]
  · show mN (tBoth g) 14 (8 * (12 + (mK g 16 - 2))) = mN g 14 (8 * (12 + (mK g 16 - 2))) ||| mN g 14 (8 * (12 + (mK g 16 - 1)))
    rw [eN, bo_N, if_pos ⟨rfl, rfl⟩]

