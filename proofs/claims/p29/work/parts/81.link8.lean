/-! the calls on sides and results: a step on both sides -/
theorem ta_N {g : mS} {s w k r : Nat} (j i : Nat) : mN (tApp g s w k r) j i = if j = 1 ∧ i = s then mN g 1 s + 1 else if j = 4 ∧ i = 40 * s + mN g 1 s then (if mN g 1 s = 0 then 0 else mN g 4 (40 * s + mN g 1 s - 1) + (mB g 6 s).toNat) else if j = 3 ∧ i = 40 * s + mN g 1 s then (if mN g 1 s = 0 then 0 else mN g 3 (40 * s + mN g 1 s - 1) + (mB g 5 s).toNat) else if j = 2 ∧ i = 3 * (40 * s + mN g 1 s) + 2 then r else if j = 2 ∧ i = 3 * (40 * s + mN g 1 s) + 1 then k else if j = 2 ∧ i = 3 * (40 * s + mN g 1 s) + 0 then w else mN g j i := rfl
theorem toNat_le (b : Bool) : b.toNat ≤ 1 := by cases b <;> decide
theorem mInv_token {g : mS} (I : mInv g) {s w k r : Nat} (hs : s < 2) (hc : mN g 1 s < 40) (hw : w < 100) (hk : k < 100) (hr : r < 100) : mInv (tApp g s w k r) := by
  obtain ⟨a1, a2, a3, a4, a5, a6, a7, a8, a9, a10, a11, a12, a13, a14, a15, a16⟩ := I
  refine ⟨fun s' hs' => ?_, fun i hi => ?_, fun i hi => ?_, fun i hi => ?_, a5, a6, a7, a8, a9, a10, a11, a12, a13, a14, fun r' s' hr' hs' he k' hk' z hz hb => ?_, a16⟩
  · rw [ta_N]
    split
    · omega
    · rw [if_neg (by omega), if_neg (by omega), if_neg (by omega), if_neg (by omega), if_neg (by omega)]; exact a1 s' hs'
  · rw [ta_N, if_neg (by omega), if_neg (by omega), if_neg (by omega)]
    split
    · exact hr
    · split
      · exact hk
      · split
        · exact hw
        · exact a2 i hi
  · rw [ta_N, if_neg (by omega), if_neg (by omega)]
    split
    · rename_i e
      rw [e.2]
      split
      · exact Nat.zero_le _
      · have h1 := a3 (40 * s + mN g 1 s - 1) (by omega)
        have h2 := toNat_le (mB g 5 s)
        omega
    · rw [if_neg (by omega), if_neg (by omega), if_neg (by omega)]; exact a3 i hi
  · rw [ta_N, if_neg (by omega)]
    split
    · rename_i e
      rw [e.2]
      split
      · exact Nat.zero_le _
      · have h1 := a4 (40 * s + mN g 1 s - 1) (by omega)
        have h2 := toNat_le (mB g 6 s)
        omega
    · rw [if_neg (by omega), if_neg (by omega), if_neg (by omega), if_neg (by omega)]; exact a4 i hi
  · have hb' : mN g 21 (40 * r' + k') / 2 ^ z % 2 = 1 := by
      rw [ta_N, if_neg (by omega), if_neg (by omega), if_neg (by omega), if_neg (by omega), if_neg (by omega), if_neg (by omega)] at hb; exact hb
    have h1 := a15 r' s' hr' hs' he k' hk' z hz hb'
    rw [ta_N]
    split
    · rename_i e; rw [e.2] at h1; omega
    · rw [if_neg (by omega), if_neg (by omega), if_neg (by omega), if_neg (by omega), if_neg (by omega)]; exact h1
/-- where the class's state is the reference's, but for its note of a throw -/
theorem step_eq {G : eG} {ad : Nat → Nat → Nat} {h h9 : hp} {g S' g9 : mS} {T : Nat → tC3} {X Y : Nat → pA} (A : AI g) (k : lnk G ad h g T X Y) (F : cfr ad h h9) (I' : mInv S') (eK : ∀ j, j ≠ 0 → mK S' j = mK g9 j) (eN : ∀ j i, mN S' j i = mN g9 j i) (eB : ∀ j i, mB S' j i = mB g9 j i) (cK : ∀ j, j ≠ 0 → mK g9 j = mK g j) (cN : ∀ j i, j = 7 ∨ j = 8 ∨ j = 12 ∨ j = 13 ∨ j = 14 ∨ 22 < j → mN g9 j i = mN g j i) (cB : ∀ j i, j ≠ 5 → j ≠ 6 → mB g9 j i = mB g j i) (cI : ∀ j i, mI S' j i = mI g j i) : stpO G ad h9 S' g9 := by
  refine ⟨⟨⟨eK _ (by decide), eK _ (by decide)⟩, fun j _ i => eN j i, fun i => ⟨eB _ _, eB _ _⟩⟩, AI_part A I' (fun i => ?_) (fun i => by rw [mg_I, if_pos (by decide)]; exact cI _ _) (fun j hj i => ?_) ⟨?_, ?_, ?_⟩, T, X, Y, lnk_mrg k F ⟨(eK _ (by decide)).trans (cK _ (by decide)), (eK _ (by decide)).trans (cK _ (by decide))⟩ (fun j hj i => (eN _ _).trans (cN _ _ (by omega))) (fun j hj i => cN _ _ (by omega)) ⟨fun i => (eB _ _).trans (cB _ _ (by decide) (by decide)), fun i => (eB _ _).trans (cB _ _ (by decide) (by decide)), fun i => cI _ _⟩⟩
  · rw [mg_B, if_neg (by decide)]; exact cB _ _ (by decide) (by decide)
  · rw [mg_N]
    split
    · exact (eN _ _).trans (cN _ _ (by omega))
    · exact cN _ _ (by omega)
  · rw [mg_B, if_neg (by decide)]; exact cB _ _ (by decide) (by decide)
  · rw [mg_B, if_neg (by decide)]; exact cB _ _ (by decide) (by decide)
  · rw [mg_K, if_neg (by decide)]; exact cK _ (by decide)
theorem step_token {G : eG} {ad : Nat → Nat → Nat} {h h9 : hp} {g : mS} {T : Nat → tC3} {X Y : Nat → pA} {side word kind root : Int32} (A : AI g) (k : lnk G ad h g T X Y) (F : cfr ad h h9) (c0 : cToken g side word kind root = 0) : stpO G ad h9 (tToken g side word kind root) (tApp g (tn side) (tn word) (tn kind) (tn root)) := by
  obtain ⟨z1, z2, z3, z4, z5⟩ := cToken_0 c0
  obtain ⟨-, -, s1⟩ := inR_of z1 (by decide) (by decide)
  obtain ⟨-, -, s2⟩ := inR_of z2 (by decide) (by decide)
  obtain ⟨-, -, s3⟩ := inR_of z3 (by decide) (by decide)
  obtain ⟨-, -, s4⟩ := inR_of z4 (by decide) (by decide)
  have hc := A.1.1 (tn side) (by omega)
  have I := mInv_token A.1 (s := tn side) (w := tn word) (k := tn kind) (r := tn root) (by omega) (by omega) (by omega) (by omega) (by omega)
  have eS : tToken g side word kind root = uK (tApp g (tn side) (tn word) (tn kind) (tn root)) 0 0 := by rw [tToken, if_pos c0]; rfl
  rw [eS]
  refine step_eq A k F I (fun j hj => by rw [mK_uK, if_neg hj]) (fun _ _ => rfl) (fun _ _ => rfl) (fun j _ => rfl) (fun j i hj => by rw [ta_N, if_neg (by omega), if_neg (by omega), if_neg (by omega), if_neg (by omega), if_neg (by omega), if_neg (by omega)]) (fun j i h5 h6 => ?_) (fun _ _ => rfl)
  show (if j = 6 ∧ i = tn side then false else if j = 5 ∧ i = tn side then false else mB g j i) = _
  rw [if_neg (by omega), if_neg (by omega)]
theorem step_end {G : eG} {ad : Nat → Nat → Nat} {h h9 : hp} {g : mS} {T : Nat → tC3} {X Y : Nat → pA} {side : Int32} {t : Bool} (A : AI g) (k : lnk G ad h g T X Y) (F : cfr ad h h9) (c0 : cEnd g side = 0) : stpO G ad h9 (tEnd g side t) (uB (uB g 5 (tn side) true) 6 (tn side) (mB g 6 (tn side) || t)) := by
  have eS : tEnd g side t = uK (uB (uB g 5 (tn side) true) 6 (tn side) (mB g 6 (tn side) || t)) 0 0 := by rw [tEnd, if_pos c0]; rfl
  rw [eS]
  refine step_eq A k F A.1 (fun j hj => by rw [mK_uK, if_neg hj]) (fun _ _ => rfl) (fun _ _ => rfl) (fun j _ => rfl) (fun _ _ _ => rfl) (fun j i h5 h6 => ?_) (fun _ _ => rfl)
  rw [mB_uB, if_neg (by omega), mB_uB, if_neg (by omega)]
theorem sumTo_put {f f' : Nat → Nat} {k0 d : Nat} (h : ∀ k, k ≠ k0 → f' k = f k) (h0 : f' k0 = f k0 + d) : ∀ {n}, k0 < n → sumTo f' n = sumTo f n + d
  | 0, hn => absurd hn (Nat.not_lt_zero _)
  | n + 1, hn => by
    rw [sumTo, sumTo]
    by_cases e : k0 = n
    · subst e
      rw [h0, sumTo_congr (g := f) (fun j hj => h j (by omega))]; omega
    · rw [sumTo_put h h0 (n := n) (by omega), h n (fun z => e z.symm)]; omega
theorem step_align {G : eG} {ad : Nat → Nat → Nat} {h h9 : hp} {g : mS} {T : Nat → tC3} {X Y : Nat → pA} {a b : Int32} (A : AI g) (k : lnk G ad h g T X Y) (F : cfr ad h h9) (c0 : cAlign g a b = 0) : stpO G ad h9 (tAlign g a b) (tAl2 g (tn a) (tn b)) ∧ rAlign g a b = mK (tAl2 g (tn a) (tn b)) 40 := by
  obtain ⟨I, J, P, Q, W, N⟩ := id A
  have hc : (isSen g 0 a && isSen g 1 b) = true := by
    refine Classical.byContradiction fun z => ?_
    have : cAlign g a b = 1 := if_neg z
    rw [this] at c0; cases c0
  rw [Bool.and_eq_true] at hc
  obtain ⟨-, -, ha⟩ := isSen_of I (by decide) hc.1
  obtain ⟨-, -, hb⟩ := isSen_of I (by decide) hc.2
  have eS : tAlign g a b = uN (uK g 0 0) 7 (tn a) (mN g 7 (tn a) ||| 2 ^ tn b) := by rw [tAlign, if_pos c0]
  have e7 : ∀ i, mN (tAlign g a b) 7 i = if i = tn a then mN g 7 (tn a) ||| 2 ^ tn b else mN g 7 i := fun i => by
    rw [eS, mN_uN]
    by_cases z : i = tn a
    · rw [if_pos ⟨rfl, z⟩, if_pos z]
    · rw [if_neg (fun q => z q.2), if_neg z]; rfl
  have eN : ∀ j i, j ≠ 7 → mN (tAlign g a b) j i = mN g j i := fun j i hj => by rw [eS, mN_uN, if_neg (fun q => hj q.1)]; rfl
  have q0 := Q (tn a) (tn b) ha hb
  have nP : nPairs (tAlign g a b) 1600 = nPairs g 1600 + (if mN g 7 (tn a) / 2 ^ tn b % 2 = 1 then 0 else 1) := by
    unfold nPairs
    refine sumTo_put (k0 := 40 * tn a + tn b) (fun k hk => ?_) ?_ (by omega)
    · show mN (tAlign g a b) 7 (k / 40) / 2 ^ (k % 40) % 2 = mN g 7 (k / 40) / 2 ^ (k % 40) % 2
      rw [e7]
      split
      · rename_i z
        refine bit_eq ?_
        rw [bit_or, bit_pow, z]
        constructor
        · rintro (y | y)
          · exact y
          · omega
        · exact Or.inl
      · rfl
    · show mN (tAlign g a b) 7 ((40 * tn a + tn b) / 40) / 2 ^ ((40 * tn a + tn b) % 40) % 2 = mN g 7 ((40 * tn a + tn b) / 40) / 2 ^ ((40 * tn a + tn b) % 40) % 2 + _
      rw [show (40 * tn a + tn b) / 40 = tn a by omega, show (40 * tn a + tn b) % 40 = tn b by omega, e7, if_pos rfl]
      have h1 := bit_or (a := mN g 7 (tn a)) (b := 2 ^ tn b) (k := tn b)
      have h2 := h1.mpr (Or.inr (bit_pow.mpr rfl))
      rcases bit01 (mN g 7 (tn a)) (tn b) with z | z
      · rw [h2, z, if_neg (by decide)]
      · rw [h2, z, if_pos rfl]
  have I' : mInv (tAlign g a b) := by
    obtain ⟨a1, a2, a3, a4, a5, a6, a7, a8, a9, a10, a11, a12, a13, a14, a15, a16⟩ := I
    have I : mInv g := ⟨a1, a2, a3, a4, a5, a6, a7, a8, a9, a10, a11, a12, a13, a14, a15, a16⟩
    have l7 := fun i hi => tAlign_lt (a := a) (b := b) I i hi
    rw [eS] at l7 ⊢
    exact ⟨a1, a2, a3, a4, l7, a6, a7, a8, a9, a10, a11, a12, a13, a14, a15, a16⟩
  generalize hg9 : tAl2 g (tn a) (tn b) = g9
  have c53 : ∀ i, mN g9 53 i = if mN g 53 (40 * 0 + tn a) / 2 ^ tn b % 2 = 1 then mN g 53 i else if i = 40 * 1 + tn b then mN g 53 (40 * 1 + tn b) ||| 1 * 2 ^ tn a else if i = 40 * 0 + tn a then mN g 53 (40 * 0 + tn a) ||| 1 * 2 ^ tn b else mN g 53 i := fun i => by
    rw [← hg9]
    unfold tAl2
    split
    · rfl
    · rw [mN_uK, mN_uN, mN_uN]
      by_cases x : i = 40 * 1 + tn b
      · rw [if_pos ⟨rfl, x⟩, if_pos x]
      · rw [if_neg (fun q => x q.2), if_neg x]
        by_cases y : i = 40 * 0 + tn a
        · rw [if_pos ⟨rfl, y⟩, if_pos y]
        · rw [if_neg (fun q => y q.2), if_neg y]
  have cN : ∀ j i, j ≠ 53 → mN g9 j i = mN g j i := fun j i hj => by
    rw [← hg9]
    unfold tAl2
    split
    · rfl
    · rw [mN_uK, mN_uN, if_neg (fun q => hj q.1), mN_uN, if_neg (fun q => hj q.1)]
  have cK : ∀ j, mK g9 j = if j = 40 then mK g 40 + (if mN g 53 (40 * 0 + tn a) / 2 ^ tn b % 2 = 1 then 0 else 1) else mK g j := fun j => by
    rw [← hg9]
    unfold tAl2
    split
    · split
      · rename_i z; rw [z]; rfl
      · rfl
    · rw [mK_uK]; rfl
  have cB : ∀ j i, mB g9 j i = mB g j i := fun j i => by
    rw [← hg9]; unfold tAl2; split <;> rfl
  have eB : ∀ j i, mB (tAlign g a b) j i = mB g j i := fun j i => by rw [eS]; rfl
  have eI : ∀ j i, mI (tAlign g a b) j i = mI g j i := fun j i => by rw [eS]; rfl
  have eK : ∀ j, j ≠ 0 → mK (tAlign g a b) j = mK g j := fun j hj => by rw [eS, mK_uN, mK_uK, if_neg hj]
  have k40 : mK g9 40 = nPairs (tAlign g a b) 1600 := by rw [cK, if_pos rfl, nP, N, q0.1]
  refine ⟨⟨⟨⟨by rw [eK _ (by decide), cK, if_neg (by decide)], by rw [eK _ (by decide), cK, if_neg (by decide)]⟩, fun j hj i => by rw [eN _ _ (by omega), cN _ _ (by omega)], fun i => ⟨by rw [eB, cB], by rw [eB, cB]⟩⟩, ⟨I', fun r hr => ?_, fun i hi => ?_, fun a' b' ha' hb' => ?_, ⟨?_, fun z hz => ?_⟩, ?_⟩, T, X, Y, lnk_mrg k F ⟨eK _ (by decide), eK _ (by decide)⟩ (fun j hj i => eN _ _ (by omega)) (fun j hj i => cN _ _ (by omega)) ⟨fun i => eB _ _, fun i => eB _ _, fun i => eI _ _⟩⟩, ?_⟩
  · have := J r hr
    rw [mg_B, if_neg (by decide), mg_I, if_pos (by decide), mg_N, if_neg (by decide), cB, eI, cN _ _ (by decide)]
    exact this
  · rw [mg_N, if_neg (by decide), c53]
    have p1 := P i hi
    have w1 : (2:Nat) ^ tn a < 2 ^ 40 := Nat.pow_lt_pow_right (by decide) ha
    have w2 : (2:Nat) ^ tn b < 2 ^ 40 := Nat.pow_lt_pow_right (by decide) hb
    split
    · exact p1
    · split
      · exact or_lt (n := 40) (P _ (by omega)) (by omega)
      · split
        · exact or_lt (n := 40) (P _ (by omega)) (by omega)
        · exact p1
  · have q1 := Q a' b' ha' hb'
    rw [mg_N, if_neg (by decide), mg_N, if_pos (by decide), mg_N, if_neg (by decide), c53, c53, e7]
    by_cases z : mN g 53 (40 * 0 + tn a) / 2 ^ tn b % 2 = 1
    · rw [if_pos z, if_pos z]
      by_cases y : a' = tn a
      · rw [if_pos y, y]
        have e : mN g 7 (tn a) ||| 2 ^ tn b = mN g 7 (tn a) := by
          have := or_self_bit (a := mN g 7 (tn a)) (t := tn b) (fun w => by
            have h3 : (mN g 7 (tn a) &&& 1 * 2 ^ tn b) / 2 ^ tn b % 2 = 1 := bit_and.mpr ⟨by rw [← q0.1]; exact z, by rw [Nat.one_mul]; exact bit_pow.mpr rfl⟩
            rw [w, Nat.zero_div] at h3; cases h3)
          rw [Nat.one_mul] at this; exact this
        rw [e]; rw [y] at q1; exact q1
      · rw [if_neg y]; exact q1
    · rw [if_neg z, if_neg z]
      constructor
      · rw [if_neg (show ¬ 40 * 0 + a' = 40 * 1 + tn b by omega)]
        by_cases y : a' = tn a
        · rw [if_pos (by omega), if_pos y]
          refine bit_eq ?_
          rw [bit_or, bit_or, Nat.one_mul, q0.1 |> fun _ => (Q (tn a) b' ha hb').1]
        · rw [if_neg (by omega), if_neg y]; exact q1.1
      · by_cases x : b' = tn b
        · rw [if_pos (show 40 * 1 + b' = 40 * 1 + tn b by omega), x]
          by_cases y : a' = tn a
          · rw [if_pos y, y]
            refine bit_eq' ?_
            rw [bit_or, bit_or, Nat.one_mul, bit_pow, bit_pow]
            constructor
            · intro _; exact Or.inr rfl
            · intro _; exact Or.inr rfl
          · rw [if_neg y]
            rw [x] at q1
            rw [← q1.2]
            refine bit_eq ?_
            rw [bit_or, Nat.one_mul, bit_pow]
            constructor
            · rintro (v | v)
              · exact v
              · exact absurd v.symm y
            · exact Or.inl
        · rw [if_neg (show ¬ 40 * 1 + b' = 40 * 1 + tn b by omega), if_neg (show ¬ 40 * 1 + b' = 40 * 0 + tn a by omega)]
          by_cases y : a' = tn a
          · rw [if_pos y, q1.2, y]
            refine bit_eq ?_
            rw [bit_or, bit_pow]
            constructor
            · exact Or.inl
            · rintro (v | v)
              · exact v
              · exact absurd v.symm x
          · rw [if_neg y]; exact q1.2
  · rw [mg_B, if_neg (by decide), mg_B, if_neg (by decide), cB, cB]; exact W.1
  · rw [mg_N, if_neg (by decide), cN _ _ (by decide)]; exact W.2 z hz
  · have e := nPairs_cong (g := tAlign g a b) (g' := mrg (tAlign g a b) g9) (fun i => by rw [mg_N, if_pos (by decide)]) 1600
    have e2 : mK (mrg (tAlign g a b) g9) 40 = mK g9 40 := by rw [mg_K, if_neg (by decide)]
    exact e2.trans (k40.trans e.symm)
  · rw [rAlign, if_pos c0]; exact k40.symm

