/-! test, any, same: a step on both sides -/
theorem pu_K (g : mS) (j : Nat) : mK (tPuts (uK g 0 0)) j = if j = 16 then mK g 16 + 1 else if j = 0 then 0 else mK g j := by
  unfold tPuts puV puW
  simp only [mK_uK, mN_uK, mB_uK, mI_uK, mK_uN, mN_uN, mB_uN, mI_uN, mK_uB, mN_uB, mB_uB, mI_uB, mK_uI, mN_uI, mB_uI, mI_uI, mK_sN, mN_sN, mB_sN, mI_sN, mK_sB, mN_sB, mB_sB, mI_sB, mK_sI, mN_sI, mB_sI, mI_sI]
  grind
theorem pu_B (g : mS) (j i : Nat) : mB (tPuts (uK g 0 0)) j i = if j = 10 then (if 256 * (12 + mK g 16) ≤ i ∧ i < 256 * (12 + mK g 16) + 256 then decide (i - 256 * (12 + mK g 16) = 1) else mB g 10 i) else if j = 9 ∧ i = 12 + mK g 16 then true else mB g j i := by
  unfold tPuts puV puW
  simp only [mK_uK, mN_uK, mB_uK, mI_uK, mK_uN, mN_uN, mB_uN, mI_uN, mK_uB, mN_uB, mB_uB, mI_uB, mK_uI, mN_uI, mB_uI, mI_uI, mK_sN, mN_sN, mB_sN, mI_sN, mK_sB, mN_sB, mB_sB, mI_sB, mK_sI, mN_sI, mB_sI, mI_sI]
  grind
theorem pu_N (g : mS) (j i : Nat) : mN (tPuts (uK g 0 0)) j i = if j = 14 ∧ i = 8 * (12 + mK g 16) then 0 else if j = 13 ∧ i = 8 * (12 + mK g 16) then 0 else if j = 12 then (if 48 * (12 + mK g 16) ≤ i ∧ i < 48 * (12 + mK g 16) + 6 then 0 else mN g 12 i) else if j = 8 ∧ i = 12 + mK g 16 then 1 else mN g j i := by
  unfold tPuts puV puW
  simp only [mK_uK, mN_uK, mB_uK, mI_uK, mK_uN, mN_uN, mB_uN, mI_uN, mK_uB, mN_uB, mB_uB, mI_uB, mK_uI, mN_uI, mB_uI, mI_uI, mK_sN, mN_sN, mB_sN, mI_sN, mK_sB, mN_sB, mB_sB, mI_sB, mK_sI, mN_sI, mB_sI, mI_sI]
  grind
theorem pu_I (g : mS) (j i : Nat) : mI (tPuts (uK g 0 0)) j i = if j = 11 then (if 24 * (12 + mK g 16) ≤ i ∧ i < 24 * (12 + mK g 16) + 3 then -1 else mI g 11 i) else mI g j i := by
  unfold tPuts puV puW
  simp only [mK_uK, mN_uK, mB_uK, mI_uK, mK_uN, mN_uN, mB_uN, mI_uN, mK_uB, mN_uB, mB_uB, mI_uB, mK_uI, mN_uI, mB_uI, mI_uI, mK_sN, mN_sN, mB_sN, mI_sN, mK_sB, mN_sB, mB_sB, mI_sB, mK_sI, mN_sI, mB_sI, mI_sI]
  grind
theorem put_step {G : eG} {ad : Nat → Nat → Nat} {h h9 : hp} {g S' : mS} {T : Nat → tC3} {X Y : Nat → pA} {a t : Nat} {c : tC3} (A : AI g) (k : lnk G ad h g T X Y) (F : cfr ad h h9) (h7 : mTests g < 8) (hK : ∀ j, mK S' j = mK (tPuts (uK g 0 0)) j) (hB : ∀ j i, mB S' j i = mB (tPuts (uK g 0 0)) j i) (hN : ∀ j i, j ≠ 12 → j ≠ 14 → mN S' j i = mN (tPuts (uK g 0 0)) j i) (hI : ∀ j i, j ≠ 11 → mI S' j i = mI (tPuts (uK g 0 0)) j i) (h12 : ∀ i, ¬ (48 * (12 + mK g 16) ≤ i ∧ i < 48 * (12 + mK g 16) + 6) → mN S' 12 i = mN g 12 i) (h12' : ∀ k, k < 6 → mN S' 12 (6 * (8 * (12 + mK g 16)) + k) < 1125899906842624) (h14 : ∀ i, i ≠ 8 * (12 + mK g 16) → mN S' 14 i = mN g 14 i) (h14' : mN S' 14 (8 * (12 + mK g 16)) < 512) (h11 : ∀ i, ¬ (24 * (12 + mK g 16) ≤ i ∧ i < 24 * (12 + mK g 16) + 3) → mI S' 11 i = mI g 11 i) (hnew : h t = none) (hp : prA G ad h9 a (1, 1, 1, rsF c.2.1 9, false, (fun _ => 0), fun _ => t) true) (ht : tst G ad h9 t c.1 c.2.1 c.2.2) (hR : tRl c (tcM S' (8 * (12 + mK g 16)))) (hP : ∀ i, i < 6 → c.1 i < 18446744073709551616) (hs : c.2.1 < 512) (hl : c.2.2 < 8) : shr S' (psh g a) ∧ AI (mrg S' (psh g a)) ∧ ∃ T' X', lnk G ad h9 (mrg S' (psh g a)) T' X' Y := by
  have I := A.1
  have k7 := pile_7 (g := g) (fun i hi => (k.1 i hi).P.2.1.1 |> fun q => by have := (k.1 i hi).2.2.2.1; omega) h7
  have h15 := pats_le I
  have e9 : mB S' 9 (12 + (mK g 16 - 0)) = true := by rw [hB, pu_B]; simp
  have ew : ∀ w, w < 256 → mB S' 10 (256 * (12 + (mK g 16 - 0)) + w) = decide (w = 1) := fun w hw => by
    rw [hB, pu_B, if_pos rfl, if_pos (by omega), show 256 * (12 + (mK g 16 - 0)) + w - 256 * (12 + mK g 16) = w by omega]
  have e8 : mN S' 8 (12 + (mK g 16 - 0)) = 1 := by rw [hN 8 _ (by decide) (by decide), pu_N]; simp
  have hT : (fun b => if b = t then c else T b) t = c := by simp
  rw [psh_0]
  have q := pile_step (c := 0) (a := a) (n := 1) (y := (1, 1, 1, rsF c.2.1 9, false, (fun _ => 0), fun _ => t)) (S' := S') (T' := fun b => if b = t then c else T b) A k F (Nat.zero_le _) (by omega) ⟨by rw [hK, pu_K]; simp, by rw [hK, pu_K]; simp⟩ ⟨by omega, by omega, by
      have : sumTo (fun k => mN g 8 (12 + k)) (mK g 16 - 0) = mTests g := rfl
      omega⟩ e8 (fun p hp => ⟨by rw [hN 8 _ (by decide) (by decide), pu_N]; simp; intro z; omega, by rw [hB, pu_B]; simp; intro z; omega, fun w hw => by rw [hB, pu_B, if_pos rfl, if_neg (by omega)]⟩) (fun p hp j hj => tcM_congr (fun k hk => h11 _ (by omega)) (fun k hk => h12 _ (by omega)) (by rw [hN 13 _ (by decide) (by decide), pu_N]; simp; intro z; omega) (h14 _ (by omega))) ⟨fun w hw hb => by rw [ew w hw] at hb; have := of_decide_eq_true hb; omega, fun _ => ⟨rfl, ew⟩⟩ (fun i hi => by
      by_cases z : 48 * (12 + mK g 16) ≤ i ∧ i < 48 * (12 + mK g 16) + 6
      · have := h12' (i - 48 * (12 + mK g 16)) (by omega)
        rw [show 6 * (8 * (12 + mK g 16)) + (i - 48 * (12 + mK g 16)) = i by omega] at this; exact this
      · rw [h12 i z]; exact I.2.2.2.2.2.2.1 i hi) (fun i hi => by
      rw [hN 13 _ (by decide) (by decide), pu_N]
      have := I.2.2.2.2.2.2.2.1 i hi
      simp only [show ¬ (13:Nat) = 14 by decide, show ¬ (13:Nat) = 12 by decide, show ¬ (13:Nat) = 8 by decide, false_and, if_false, true_and]
      split <;> omega) (fun i hi => by
      by_cases z : i = 8 * (12 + mK g 16)
      · rw [z]; exact h14'
      · rw [h14 i z]; exact I.2.2.2.2.2.2.2.2.1 i hi) (fun j hj i => by
      rw [hN j _ (by omega) (by omega), pu_N, if_neg (by omega), if_neg (by omega), if_neg (by omega), if_neg (by omega)]) (fun i => ⟨by rw [hB, pu_B]; simp, by rw [hB, pu_B]; simp⟩) (fun i => by rw [hI 20 _ (by decide), pu_I]; simp) (fun b hb => by
      show (if b = t then c else T b) = T b
      rw [if_neg (fun z => hb (by rw [z]; exact hnew))]) (by rw [e9]; exact hp) (fun j hj => by
      show tst G ad h9 t ((fun b => if b = t then c else T b) t).1 ((fun b => if b = t then c else T b) t).2.1 ((fun b => if b = t then c else T b) t).2.2
      rw [hT]; exact ht) (pkR_one hT e8 ew hR hP hs hl)
  exact ⟨q.1, q.2.1, _, _, q.2.2⟩
theorem allP_lt {i : Nat} : allP i < 18446744073709551616 := by unfold allP; split <;> omega
theorem cTest_7 {g : mS} (I : mInv g) (h : mTests g ≠ 8) : mTests g < 8 := by have := mTests_le I; omega
theorem step_any {G : eG} {ad : Nat → Nat → Nat} {h h9 : hp} {g : mS} {T : Nat → tC3} {X Y : Nat → pA} {a t : Nat} (A : AI g) (k : lnk G ad h g T X Y) (F : cfr ad h h9) (c0 : cAny g = 0) (hnew : h t = none) (hp : prA G ad h9 a (1, 1, 1, rsF 0 9, false, (fun _ => 0), fun _ => t) true) (ht : tst G ad h9 t allP 0 0) : shr (tAny g) (psh g a) ∧ AI (mrg (tAny g) (psh g a)) ∧ ∃ T' X', lnk G ad h9 (mrg (tAny g) (psh g a)) T' X' Y := by
  have h8 : mTests g ≠ 8 := fun z => by rw [cAny, if_pos z] at c0; cases c0
  rw [show tAny g = tPuts (uK g 0 0) by rw [tAny, if_pos c0]]
  exact put_step (c := (allP, 0, 0)) A k F (cTest_7 A.1 h8) (fun _ => rfl) (fun _ _ => rfl) (fun _ _ _ _ => rfl) (fun _ _ _ => rfl) (fun i hi => by rw [pu_N, if_neg (by omega), if_neg (by omega), if_pos rfl, if_neg hi]) (fun k hk => by rw [pu_N, if_neg (by omega), if_neg (by omega), if_pos rfl, if_pos (by omega)]; decide) (fun i hi => by rw [pu_N, if_neg (by omega), if_neg (by omega), if_neg (by omega), if_neg (by omega)]) (by rw [pu_N, if_pos ⟨rfl, rfl⟩]; decide) (fun i hi => by rw [pu_I, if_pos rfl, if_neg hi]) hnew hp ht (tR_any (fun k hk => by rw [pu_I, if_pos rfl, if_pos (by omega)]) (fun k hk => by rw [pu_N, if_neg (by omega), if_neg (by omega), if_pos rfl, if_pos (by omega)]) (by rw [pu_N, if_neg (by omega), if_pos ⟨rfl, rfl⟩]) (fun a ha l hl => by rw [pu_N, if_pos ⟨rfl, rfl⟩, Nat.zero_div, Nat.zero_div])) (fun i _ => allP_lt) (by show 0 < 512; decide) (by show 0 < 8; decide)
theorem bit_eq' {a b k j : Nat} (h : a / 2 ^ k % 2 = 1 ↔ b / 2 ^ j % 2 = 1) : a / 2 ^ k % 2 = b / 2 ^ j % 2 := by
  rcases bit01 a k with x | x <;> rcases bit01 b j with y | y <;> omega
theorem pow_3 {a l : Nat} (ha : a < 3) (hl : l < 3) : 2 ^ (3 * l + a) < 512 := by
  have : (2:Nat) ^ (3 * l + a) ≤ 2 ^ 8 := Nat.pow_le_pow_right (by decide) (by omega)
  omega
theorem step_same {G : eG} {ad : Nat → Nat → Nat} {h h9 : hp} {g : mS} {T : Nat → tC3} {X Y : Nat → pA} {a t : Nat} {attr lab : Int32} (A : AI g) (k : lnk G ad h g T X Y) (F : cfr ad h h9) (c0 : cSame g attr lab = 0) (hnew : h t = none) (hp : prA G ad h9 a (1, 1, 1, rsF (1 * 2 ^ (tn attr * 3 + tn lab)) 9, false, (fun _ => 0), fun _ => t) true) (ht : tst G ad h9 t allP (1 * 2 ^ (tn attr * 3 + tn lab)) 0) : shr (tSame g attr lab) (psh g a) ∧ AI (mrg (tSame g attr lab) (psh g a)) ∧ ∃ T' X', lnk G ad h9 (mrg (tSame g attr lab) (psh g a)) T' X' Y := by
  obtain ⟨z1, z2, h8⟩ := cSame_0 c0
  obtain ⟨-, -, s1⟩ := inR_of z1 (by decide) (by decide)
  obtain ⟨-, -, s2⟩ := inR_of z2 (by decide) (by decide)
  have e14 : ∀ j i, mN (uN (tPuts (uK g 0 0)) 14 (8 * (12 + mK g 16)) (2 ^ (3 * tn lab + tn attr))) j i = if j = 14 ∧ i = 8 * (12 + mK g 16) then 2 ^ (3 * tn lab + tn attr) else mN (tPuts (uK g 0 0)) j i := fun j i => mN_uN _ _ _ _ _ _
  rw [show tSame g attr lab = uN (tPuts (uK g 0 0)) 14 (8 * (12 + mK g 16)) (2 ^ (3 * tn lab + tn attr)) by rw [tSame, if_pos c0]]
  exact put_step (c := (allP, 1 * 2 ^ (tn attr * 3 + tn lab), 0)) A k F (cTest_7 A.1 h8) (fun _ => rfl) (fun _ _ => rfl) (fun j i _ h => by rw [e14, if_neg (by omega)]) (fun _ _ _ => rfl) (fun i hi => by rw [e14, if_neg (by omega), pu_N, if_neg (by omega), if_neg (by omega), if_pos rfl, if_neg hi]) (fun k hk => by rw [e14, if_neg (by omega), pu_N, if_neg (by omega), if_neg (by omega), if_pos rfl, if_pos (by omega)]; decide) (fun i hi => by rw [e14, if_neg (by omega), pu_N, if_neg (by omega), if_neg (by omega), if_neg (by omega), if_neg (by omega)]) (by rw [e14, if_pos ⟨rfl, rfl⟩]; exact pow_3 (by omega) (by omega)) (fun i hi => by show mI (tPuts (uK g 0 0)) 11 i = _; rw [pu_I, if_pos rfl, if_neg hi]) hnew hp ht (tR_any (fun k hk => by show mI (tPuts (uK g 0 0)) 11 _ = _; rw [pu_I, if_pos rfl, if_pos (by omega)]) (fun k hk => by rw [e14, if_neg (by omega), pu_N, if_neg (by omega), if_neg (by omega), if_pos rfl, if_pos (by omega)]) (by rw [e14, if_neg (by omega), pu_N, if_neg (by omega), if_pos ⟨rfl, rfl⟩]) (fun a ha l hl => by
      rw [e14, if_pos ⟨rfl, rfl⟩, Nat.one_mul]
      exact bit_eq' (by rw [bit_pow, bit_pow]; omega))) (fun i _ => allP_lt) (two9 (by omega) (by omega)) (by show 0 < 8; decide)
theorem valP_lt {a v i : Nat} : valP a v i < 18446744073709551616 := by
  unfold valP
  have : (2:Nat) ^ (v % 64) ≤ 2 ^ 63 := Nat.pow_le_pow_right (by decide) (by omega)
  split
  · omega
  · split
    · omega
    · exact allP_lt
theorem othP_lt {a v i : Nat} : othP a v i < 18446744073709551616 := by
  unfold othP
  have : (2:Nat) ^ (v % 64) ≤ 2 ^ 63 := Nat.pow_le_pow_right (by decide) (by omega)
  split
  · exact Nat.xor_lt_two_pow (n := 64) (by omega) (by decide)
  · exact allP_lt
theorem step_test {G : eG} {ad : Nat → Nat → Nat} {h h9 : hp} {g : mS} {T : Nat → tC3} {X Y : Nat → pA} {a t : Nat} {attr v : Int32} {o : Bool} (A : AI g) (k : lnk G ad h g T X Y) (F : cfr ad h h9) (c0 : cTest g attr v = 0) (hnew : h t = none) (hp : prA G ad h9 a (1, 1, 1, rsF 0 9, false, (fun _ => 0), fun _ => t) true) (ht : tst G ad h9 t (if o = true then othP (tn attr) (tn v) else valP (tn attr) (tn v)) 0 0) : shr (tTest g attr v o) (psh g a) ∧ AI (mrg (tTest g attr v o) (psh g a)) ∧ ∃ T' X', lnk G ad h9 (mrg (tTest g attr v o) (psh g a)) T' X' Y := by
  obtain ⟨z1, z2, h8⟩ := cTest_0 c0
  obtain ⟨-, -, s1⟩ := inR_of z1 (by decide) (by decide)
  obtain ⟨e2, -, s2⟩ := inR_of z2 (by decide) (by decide)
  cases o with
  | true =>
    have e12 : ∀ j i, mN (uN (tPuts (uK g 0 0)) 12 (6 * (8 * (12 + mK g 16)) + 2 * tn attr + tn v / 50) (2 ^ (tn v % 50))) j i = if j = 12 ∧ i = 6 * (8 * (12 + mK g 16)) + 2 * tn attr + tn v / 50 then 2 ^ (tn v % 50) else mN (tPuts (uK g 0 0)) j i := fun j i => mN_uN _ _ _ _ _ _
    have hpw : (2:Nat) ^ (tn v % 50) ≤ 2 ^ 49 := Nat.pow_le_pow_right (by decide) (by omega)
    rw [show tTest g attr v true = uN (tPuts (uK g 0 0)) 12 (6 * (8 * (12 + mK g 16)) + 2 * tn attr + tn v / 50) (2 ^ (tn v % 50)) by rw [tTest, if_pos c0, if_pos rfl]]
    exact put_step (c := (othP (tn attr) (tn v), 0, 0)) A k F (cTest_7 A.1 h8) (fun _ => rfl) (fun _ _ => rfl) (fun j i h _ => by rw [e12, if_neg (by omega)]) (fun _ _ _ => rfl) (fun i hi => by rw [e12, if_neg (by omega), pu_N, if_neg (by omega), if_neg (by omega), if_pos rfl, if_neg hi]) (fun k hk => by
        rw [e12]; split
        · omega
        · rw [pu_N, if_neg (by omega), if_neg (by omega), if_pos rfl, if_pos (by omega)]; decide) (fun i hi => by rw [e12, if_neg (by omega), pu_N, if_neg (by omega), if_neg (by omega), if_neg (by omega), if_neg (by omega)]) (by rw [e12, if_neg (by omega), pu_N, if_pos ⟨rfl, rfl⟩]; decide) (fun i hi => by show mI (tPuts (uK g 0 0)) 11 i = _; rw [pu_I, if_pos rfl, if_neg hi]) hnew hp ht (tR_oth (by omega) (by omega) (fun k hk => by show mI (tPuts (uK g 0 0)) 11 _ = _; rw [pu_I, if_pos rfl, if_pos (by omega)]) (fun k hk => by
        rw [e12]
        by_cases z : k = 2 * tn attr + tn v / 50
        · rw [if_pos ⟨rfl, by omega⟩, if_pos z]
        · rw [if_neg (by omega), if_neg z, pu_N, if_neg (by omega), if_neg (by omega), if_pos rfl, if_pos (by omega)]) (by rw [e12, if_neg (by omega), pu_N, if_neg (by omega), if_pos ⟨rfl, rfl⟩]) (by rw [e12, if_neg (by omega), pu_N, if_pos ⟨rfl, rfl⟩])) (fun i _ => othP_lt) (by show 0 < 512; decide) (by show 0 < 8; decide)
  | false =>
    have e11 : ∀ j i, mI (uI (tPuts (uK g 0 0)) 11 (3 * (8 * (12 + mK g 16)) + tn attr) v) j i = if j = 11 ∧ i = 3 * (8 * (12 + mK g 16)) + tn attr then v else mI (tPuts (uK g 0 0)) j i := fun j i => mI_uI _ _ _ _ _ _
    rw [show tTest g attr v false = uI (tPuts (uK g 0 0)) 11 (3 * (8 * (12 + mK g 16)) + tn attr) v by rw [tTest, if_pos c0, if_neg (by decide)]]
    exact put_step (c := (valP (tn attr) (tn v), 0, 0)) A k F (cTest_7 A.1 h8) (fun _ => rfl) (fun _ _ => rfl) (fun _ _ _ _ => rfl) (fun j i h => by rw [e11, if_neg (by omega)]) (fun i hi => by show mN (tPuts (uK g 0 0)) 12 i = _; rw [pu_N, if_neg (by omega), if_neg (by omega), if_pos rfl, if_neg hi]) (fun k hk => by show mN (tPuts (uK g 0 0)) 12 _ < _; rw [pu_N, if_neg (by omega), if_neg (by omega), if_pos rfl, if_pos (by omega)]; decide) (fun i hi => by show mN (tPuts (uK g 0 0)) 14 i = _; rw [pu_N, if_neg (by omega), if_neg (by omega), if_neg (by omega), if_neg (by omega)]) (by show mN (tPuts (uK g 0 0)) 14 _ < _; rw [pu_N, if_pos ⟨rfl, rfl⟩]; decide) (fun i hi => by rw [e11, if_neg (by omega), pu_I, if_pos rfl, if_neg hi]) hnew hp ht (tR_val (by omega) (by omega) (fun k hk => by
        rw [e11]
        by_cases z : k = tn attr
        · rw [if_pos ⟨rfl, by omega⟩, if_pos z]; exact e2
        · rw [if_neg (by omega), if_neg z, pu_I, if_pos rfl, if_pos (by omega)]) (fun k hk => by show mN (tPuts (uK g 0 0)) 12 _ = _; rw [pu_N, if_neg (by omega), if_neg (by omega), if_pos rfl, if_pos (by omega)]) (by show mN (tPuts (uK g 0 0)) 13 _ = _; rw [pu_N, if_neg (by omega), if_pos ⟨rfl, rfl⟩]) (by show mN (tPuts (uK g 0 0)) 14 _ = _; rw [pu_N, if_pos ⟨rfl, rfl⟩])) (fun i _ => valP_lt) (by show 0 < 512; decide) (by show 0 < 8; decide)

