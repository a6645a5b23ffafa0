/-! repeat, keep, wipe: a step on both sides -/
theorem thW_iff {W : Nat → Bool} {m least z : Nat} : ∀ {M : Nat}, thW W m least M z = true ↔ ∃ t, t ≤ M ∧ least ≤ t ∧ nxW W m t z = true
  | 0 => by
    rw [thW, Bool.and_eq_true, decide_eq_true_eq, decide_eq_true_eq]
    constructor
    · rintro ⟨a, b⟩; exact ⟨0, Nat.le_refl _, by omega, decide_eq_true a⟩
    · rintro ⟨t, a, b, c⟩
      have : t = 0 := by omega
      subst this
      exact ⟨of_decide_eq_true c, by omega⟩
  | M + 1 => by
    rw [thW, Bool.or_eq_true, Bool.and_eq_true, decide_eq_true_eq, thW_iff]
    constructor
    · rintro (⟨t, a, b⟩ | ⟨a, b⟩)
      · exact ⟨t, by omega, b⟩
      · exact ⟨M + 1, Nat.le_refl _, a, b⟩
    · rintro ⟨t, a, b, c⟩
      by_cases e : t = M + 1
      · subst e; exact Or.inr ⟨b, c⟩
      · exact Or.inl ⟨t, by omega, b, c⟩
theorem nxW_lt {W : Nat → Bool} {m : Nat} (hW : ∀ w, w < 256 → W w = true → w < 2 ^ m) : ∀ {t z : Nat}, z < 256 → nxW W m t z = true → z < 2 ^ (m * t)
  | 0, z, _, h => by have : z = 0 := of_decide_eq_true h; rw [this]; exact Nat.two_pow_pos _
  | t + 1, z, hz, h => by
    rw [nxW, Bool.and_eq_true] at h
    have h1 := hW _ (Nat.lt_of_le_of_lt (Nat.div_le_self _ _) hz) h.2
    have h2 := Nat.div_add_mod z (2 ^ (m * t))
    have h3 := Nat.mod_lt z (Nat.two_pow_pos (m * t))
    have h4 : 2 ^ (m * t) * (z / 2 ^ (m * t) + 1) ≤ 2 ^ (m * t) * 2 ^ m := Nat.mul_le_mul_left _ h1
    rw [Nat.mul_succ] at h4
    rw [Nat.mul_succ, Nat.pow_add]
    omega
theorem cMod_two {n t : Nat} {c : Nat → cT} (hn : 0 < n) : ∀ j, j < n * t + n → cMod n c j = cTwo2 (n * t) (cMod n c) c j := fun j hj => by
  unfold cTwo2
  split
  · rfl
  · unfold cMod
    congr 1
    rw [show j = j - n * t + n * t by omega, Nat.add_mul_mod_self_left, Nat.mod_eq_of_lt (by omega), Nat.add_sub_cancel]
theorem pkL_mod {n t : Nat} {c : Nat → cT} (hn : 0 < n) (z : Nat) : pkL (cMod n c) z (n * (t + 1)) = pkL (cMod n c) (z % 2 ^ (n * t)) (n * t) ++ pkL c (z / 2 ^ (n * t)) n := by
  rw [Nat.mul_succ, pkL_congr (d := cTwo2 (n * t) (cMod n c) c) (v := z) (fun j hj => ⟨cMod_two hn j hj, rfl⟩), pkL_two]
/-- so many pieces of a part, as a way and as rows of tests -/
theorem nx_pow {g : mS} {p n : Nat} {c : Nat → cT} (hn : 0 < n) (h8 : mN g 8 p = n) (hc : c = fun j => tcM g (8 * p + j)) (hW : ∀ w, w < 256 → mB g 10 (256 * p + w) = true → w < 2 ^ n) : ∀ (t : Nat), n * t ≤ 8 → ∀ l, (∃ z, z < 2 ^ (n * t) ∧ nxW (fun z => mB g 10 (256 * p + z)) n t z = true ∧ l = pkL (cMod n c) z (n * t)) ↔ powL (lgM g p) t l
  | 0, _, l => by
    constructor
    · rintro ⟨z, _, _, e⟩; exact e
    · intro e
      exact ⟨0, Nat.two_pow_pos _, rfl, e⟩
  | t + 1, ht, l => by
    have ht' : n * t + n ≤ 8 := by rw [← Nat.mul_succ]; exact ht
    have i := nx_pow hn h8 hc hW t (by omega)
    have p8 : 2 ^ (n * t + n) ≤ 256 := Nat.pow_le_pow_right (n := 2) (by decide) ht'
    constructor
    · rintro ⟨z, hz, hx, e⟩
      rw [nxW, Bool.and_eq_true] at hx
      rw [Nat.mul_succ] at hz
      rw [pkL_mod hn] at e
      have h3 : z / 2 ^ (n * t) < 2 ^ n := div_lt2 hz
      refine ⟨_, _, (i _).mp ⟨z % 2 ^ (n * t), Nat.mod_lt _ (Nat.two_pow_pos _), hx.1, rfl⟩, ⟨z / 2 ^ (n * t), by rw [h8]; exact h3, hx.2, ?_⟩, e⟩
      rw [h8, hc]
    · rintro ⟨l1, l2, a, b, rfl⟩
      obtain ⟨z1, b1, b2, rfl⟩ := (i l1).mpr a
      obtain ⟨w, d1, d2, rfl⟩ := b
      rw [h8] at d1 ⊢
      obtain ⟨e1, e2⟩ := wTwo_of (n1 := n * t) (w2 := w) b1
      refine ⟨wTwo (n * t) z1 w, by rw [Nat.mul_succ]; exact wTwo_lt b1 d1, ?_, ?_⟩
      · rw [nxW, e1, e2, b2]; exact d2
      · rw [pkL_mod hn, e1, e2, hc]
theorem powL_congr {P Q : List cT → Prop} (h : ∀ l, P l ↔ Q l) : ∀ {t : Nat} {l : List cT}, powL P t l ↔ powL Q t l
  | 0, l => Iff.rfl
  | t + 1, l => by
    constructor
    · rintro ⟨l1, l2, a, b, c⟩; exact ⟨l1, l2, (powL_congr h).mp a, (h l2).mp b, c⟩
    · rintro ⟨l1, l2, a, b, c⟩; exact ⟨l1, l2, (powL_congr h).mpr a, (h l2).mpr b, c⟩
theorem rpA_tt (x : pA) (le : Nat) : ∀ k j, j < x.1 * (k + 1) → (rpA x le k).2.2.2.2.2.2 j = x.2.2.2.2.2.2 (j % x.1)
  | 0, j, hj => by show x.2.2.2.2.2.2 j = _; rw [Nat.mod_eq_of_lt (by omega)]
  | k + 1, j, hj => by
    show tsT (rpA x le k).1 (rpA x le k).2.2.2.2.2.2 x.2.2.2.2.2.2 j = _
    unfold tsT
    rw [rpA_n]
    split
    · exact rpA_tt x le k j (by assumption)
    · rw [Nat.mul_succ x.1 (k + 1)] at hj
      congr 1
      rw [show j = j - x.1 * (k + 1) + x.1 * (k + 1) by omega, Nat.add_mul_mod_self_left, Nat.mod_eq_of_lt (by omega), Nat.add_sub_cancel]
theorem rpA_rs {x : pA} {le z : Nat} (hm : mskF x.2.2.2.1) (hz : z < 3) (h : fdS x.2.2.2.1 z = 63) : ∀ k, mskF (rpA x le k).2.2.2.1 ∧ fdS (rpA x le k).2.2.2.1 z = 63
  | 0 => ⟨hm, h⟩
  | k + 1 => by
    have i := rpA_rs (le := le) hm hz h k
    exact ⟨mskF_or i.1 hm, msk_or hm hz i.2⟩
theorem re_B (g : mS) (p l M m j i : Nat) : mB (tBec (rpS (rpT g p M) (fT g p M) (gT g p l M)) p m) j i = if j = 9 ∧ i = p then false else if j = 10 then (if 256 * p ≤ i ∧ i < 256 * p + 256 then gT g p l M (i - 256 * p) else mB g 10 i) else if j = 17 then gT g p l M i else if j = 18 then fT g p M i else mB g j i := by
  unfold tBec beL rpS rpT
  simp only [mK_uK, mN_uK, mB_uK, mI_uK, mK_uN, mN_uN, mB_uN, mI_uN, mK_uB, mN_uB, mB_uB, mI_uB, mK_uI, mN_uI, mB_uI, mI_uI, mK_sN, mN_sN, mB_sN, mI_sN, mK_sB, mN_sB, mB_sB, mI_sB, mK_sI, mN_sI, mB_sI, mI_sI, mK_tmap, mN_tmap, mB_tmap, mI_tmap]
  grind
theorem re_N (g : mS) (p l M m j i : Nat) : mN (tBec (rpS (rpT g p M) (fT g p M) (gT g p l M)) p m) j i = if j = 8 ∧ i = p then m else mN (tmap g (rpG (8 * p) (mN g 8 p) (8 * p + mN g 8 p * M))) j i := by
  unfold tBec beL rpS rpT
  simp only [mK_uK, mN_uK, mB_uK, mI_uK, mK_uN, mN_uN, mB_uN, mI_uN, mK_uB, mN_uB, mB_uB, mI_uB, mK_uI, mN_uI, mB_uI, mI_uI, mK_sN, mN_sN, mB_sN, mI_sN, mK_sB, mN_sB, mB_sB, mI_sB, mK_sI, mN_sI, mB_sI, mI_sI, mK_tmap, mN_tmap, mB_tmap, mI_tmap]
theorem re_I (g : mS) (p l M m j i : Nat) : mI (tBec (rpS (rpT g p M) (fT g p M) (gT g p l M)) p m) j i = mI (tmap g (rpG (8 * p) (mN g 8 p) (8 * p + mN g 8 p * M))) j i := by
  unfold tBec beL rpS rpT
  simp only [mK_uK, mN_uK, mB_uK, mI_uK, mK_uN, mN_uN, mB_uN, mI_uN, mK_uB, mN_uB, mB_uB, mI_uB, mK_uI, mN_uI, mB_uI, mI_uI, mK_sN, mN_sN, mB_sN, mI_sN, mK_sB, mN_sB, mB_sB, mI_sB, mK_sI, mN_sI, mB_sI, mI_sI, mK_tmap, mN_tmap, mB_tmap, mI_tmap]
theorem step_repeat {G : eG} {ad : Nat → Nat → Nat} {h h9 : hp} {g : mS} {T : Nat → tC3} {X Y : Nat → pA} {a : Nat} {le mo : Int32} (A : AI g) (k : lnk G ad h g T X Y) (F : cfr ad h h9) (c0 : cRep g le mo = 0) (hp : prA G ad h9 a (rpA (X (mK g 16 - 1 - 0)) (tn le) (tn mo - 1)) false) : (shr (tRep g le mo) (psh (poS g 1) a) ∧ AI (mrg (tRep g le mo) (psh (poS g 1) a)) ∧ ∃ T' X', lnk G ad h9 (mrg (tRep g le mo) (psh (poS g 1) a)) T' X' Y) ∧ rRep g le mo = mTests g + (X (mK g 16 - 1 - 0)).1 * (tn mo - 1) := by
  have I := A.1
  have h16 := pile_le I
  obtain ⟨-, -, r1, r2, r3, r4, r5, r6, r7⟩ := cRep_0 I c0
  rw [show mK g 16 - 1 - 0 = mK g 16 - 1 by omega] at hp ⊢
  rw [show 12 + mK g 16 - 1 = 12 + (mK g 16 - 1) by omega] at r5 r6 r7
  have qx := k.1 (mK g 16 - 1) (by omega)
  have n1 := qx.2.2.2.1
  have hw := fun w => wB_lt I (p := 12 + (mK g 16 - 1)) (w := w) (by omega)
  generalize hx : X (mK g 16 - 1) = x at qx n1 hp ⊢
  generalize hM : tn mo = M at r1 r2 r3 r6 r7 hp ⊢
  generalize hl : tn le = l at r1 hp ⊢
  have eS : tRep g le mo = tBec (rpS (rpT g (12 + (mK g 16 - 1)) M) (fT g (12 + (mK g 16 - 1)) M) (gT g (12 + (mK g 16 - 1)) l M)) (12 + (mK g 16 - 1)) (mN g 8 (12 + (mK g 16 - 1)) * M) := by
    rw [tRep, if_pos c0, hM, hl, show 12 + mK g 16 - 1 = 12 + (mK g 16 - 1) by omega]
  rw [← n1] at r5 r6 r7
  have hxn : 1 ≤ x.1 := r5
  have sum := sum_top (f := fun k => mN g 8 (12 + k)) (k := mK g 16) (c := 0) (by omega)
  replace sum : sumTo (fun k => mN g 8 (12 + k)) (mK g 16 - 1) + mN g 8 (12 + (mK g 16 - 1)) ≤ sumTo (fun k => mN g 8 (12 + k)) (mK g 16) := sum
  rw [← n1] at sum
  have hsumT : sumTo (fun k => mN g 8 (12 + k)) (mK g 16) = mTests g := rfl
  have hxM : x.1 * M = x.1 * (M - 1) + x.1 := by rw [← Nat.mul_succ, show (M - 1).succ = M by omega]
  rw [Nat.mul_comm (M - 1)] at r7
  have hxM1 : x.1 ≤ x.1 * M := by omega
  have e8 : mN (tRep g le mo) 8 (12 + (mK g 16 - 1)) = x.1 * M := by rw [eS, re_N, if_pos ⟨rfl, rfl⟩, n1]
  have e10 : ∀ w, w < 256 → mB (tRep g le mo) 10 (256 * (12 + (mK g 16 - 1)) + w) = thW (fun z => mB g 10 (256 * (12 + (mK g 16 - 1)) + z)) x.1 l M w := fun w hw => by
    rw [eS, re_B, if_neg (by omega), if_pos rfl, if_pos (by omega), Nat.add_sub_cancel_left, gT_in hw, n1]
  have rg : ∀ j, j < x.1 * M → rpG (8 * (12 + (mK g 16 - 1))) (mN g 8 (12 + (mK g 16 - 1))) (8 * (12 + (mK g 16 - 1)) + mN g 8 (12 + (mK g 16 - 1)) * M) (8 * (12 + (mK g 16 - 1)) + j) = 8 * (12 + (mK g 16 - 1)) + j % x.1 := fun j hj => by
    unfold rpG
    rw [← n1]
    by_cases c : j < x.1
    · rw [if_neg (by omega), Nat.mod_eq_of_lt c]
    · rw [if_pos (by omega), Nat.add_sub_cancel_left]
  have etc : ∀ j, j < x.1 * M → tcM (tRep g le mo) (8 * (12 + (mK g 16 - 1)) + j) = cMod x.1 (fun j => tcM g (8 * (12 + (mK g 16 - 1)) + j)) j := fun j hj => by
    have : tcM (tRep g le mo) (8 * (12 + (mK g 16 - 1)) + j) = tcM (tmap g (rpG (8 * (12 + (mK g 16 - 1))) (mN g 8 (12 + (mK g 16 - 1))) (8 * (12 + (mK g 16 - 1)) + mN g 8 (12 + (mK g 16 - 1)) * M))) (8 * (12 + (mK g 16 - 1)) + j) := tcM_congr (fun k _ => by rw [eS, re_I]) (fun k _ => by rw [eS, re_N, if_neg (by omega)]) (by rw [eS, re_N, if_neg (by omega)]) (by rw [eS, re_N, if_neg (by omega)])
    rw [this, tcM_tmap, rg j hj]
    rfl
  have hwx : ∀ w, w < 256 → mB g 10 (256 * (12 + (mK g 16 - 1)) + w) = true → w < 2 ^ x.1 := fun w h1 h2 => by rw [n1]; exact hw w h1 h2
  have p8 : 2 ^ (x.1 * M) ≤ 256 := Nat.pow_le_pow_right (n := 2) (by decide) r6
  have hR : pkR (tRep g le mo) (12 + (mK g 16 - 1)) (rpA x l (M - 1)) T := by
    have hn9 := rpA_n x l (M - 1)
    rw [show M - 1 + 1 = M by omega] at hn9
    refine ⟨by rw [hn9, e8], wfB_rep qx.2.2.2.2.1 r6 (M - 1) (by omega), fun j hj => ?_, fun j hj kk hk hb => ?_, fun l' => ?_⟩
    · rw [hn9] at hj
      rw [rpA_tt x l (M - 1) j (by rw [show M - 1 + 1 = M by omega]; exact hj), etc j hj]
      exact qx.2.2.2.2.2.1 (j % x.1) (Nat.mod_lt _ hxn)
    · rw [hn9] at hj
      rw [rpA_tt x l (M - 1) j (by rw [show M - 1 + 1 = M by omega]; exact hj)] at hb
      exact (rpA_rs qx.2.2.2.2.1.2.1.2.2 (by omega) (qx.2.2.2.2.2.2.1 (j % x.1) (Nat.mod_lt _ hxn) kk hk hb) (M - 1)).2
    · rw [lgC_congr (d := cMod x.1 (fun j => tcM g (8 * (12 + (mK g 16 - 1)) + j))) (fun j hj => etc j (by rw [← hn9]; exact hj)), lg_rep qx.2.2.2.2.1 r6 (M - 1) (by omega)]
      have pw := fun t ht => nx_pow (g := g) (p := 12 + (mK g 16 - 1)) (n := x.1) (c := fun j => tcM g (8 * (12 + (mK g 16 - 1)) + j)) hxn n1.symm rfl hwx t ht
      have zp : ∀ t z, t ≤ M → z < 2 ^ (x.1 * t) → pkL (cMod x.1 (fun j => tcM g (8 * (12 + (mK g 16 - 1)) + j))) z (x.1 * M) = pkL (cMod x.1 (fun j => tcM g (8 * (12 + (mK g 16 - 1)) + j))) z (x.1 * t) := fun t z ht hz => by
        have h1 : x.1 * t ≤ x.1 * M := Nat.mul_le_mul_left _ ht
        have := pkL_zero (c := cMod x.1 (fun j => tcM g (8 * (12 + (mK g 16 - 1)) + j))) (w := z) (t := x.1 * t) (k := x.1 * M - x.1 * t) (fun j h2 _ => bit_lt hz h2)
        rw [show x.1 * t + (x.1 * M - x.1 * t) = x.1 * M by omega] at this
        exact this
      have le8 : ∀ t, t ≤ M → x.1 * t ≤ 8 := fun t ht => Nat.le_trans (Nat.mul_le_mul_left _ ht) r6
      constructor
      · rintro ⟨t, t1, t2, t3⟩
        have ht : t ≤ M := by omega
        obtain ⟨z, a1, a2, a3⟩ := (pw t (le8 t ht) l').mpr ((powL_congr qx.2.2.2.2.2.2.2).mp t3)
        have hz : z < 2 ^ (x.1 * M) := Nat.lt_of_lt_of_le a1 (Nat.pow_le_pow_right (by decide) (Nat.mul_le_mul_left _ ht))
        refine ⟨z, by rw [e8]; exact hz, ?_, ?_⟩
        · rw [e10 z (by omega), thW_iff]; exact ⟨t, ht, by omega, a2⟩
        · rw [e8, pkL_congr (d := cMod x.1 (fun j => tcM g (8 * (12 + (mK g 16 - 1)) + j))) (v := z) (fun j hj => ⟨etc j hj, rfl⟩), zp t z ht a1]; exact a3
      · rintro ⟨z, hz, hb, e⟩
        rw [e8] at hz e
        rw [e10 z (by omega)] at hb
        obtain ⟨t, t1, t2, t3⟩ := thW_iff.mp hb
        have a1 := nxW_lt hwx (show z < 256 by omega) t3
        rw [pkL_congr (d := cMod x.1 (fun j => tcM g (8 * (12 + (mK g 16 - 1)) + j))) (v := z) (fun j hj => ⟨etc j hj, rfl⟩), zp t z t1 a1] at e
        exact ⟨t, Or.inl t2, by omega, (powL_congr qx.2.2.2.2.2.2.2).mpr ((pw t (le8 t t1) l').mp ⟨z, a1, t3, e⟩)⟩
  refine ⟨big_step (c := 1) (n := x.1 * M) (W := thW (fun z => mB g 10 (256 * (12 + (mK g 16 - 1)) + z)) x.1 l M) (M := rpG (8 * (12 + (mK g 16 - 1))) (mN g 8 (12 + (mK g 16 - 1))) (8 * (12 + (mK g 16 - 1)) + mN g 8 (12 + (mK g 16 - 1)) * M)) A k F ⟨by omega, by omega⟩ ⟨by rw [eS]; show mK g 16 = _; omega, by rw [eS]; rfl⟩ ⟨by omega, r6, by omega⟩ (fun j i hj => by rw [eS, re_N, if_neg (by omega)]) (fun j i => by rw [eS, re_I]) (fun p => by
      rw [eS, re_N, ← n1]
      by_cases z : p = 12 + (mK g 16 - 1)
      · rw [if_pos ⟨rfl, z⟩, if_pos z]
      · rw [if_neg (by omega), if_neg z, mN_tmap, if_neg (by decide), if_neg (by decide), if_neg (by decide)]) (fun p => by
      rw [eS, re_B]
      by_cases z : p = 12 + (mK g 16 - 1)
      · rw [if_pos ⟨rfl, z⟩, if_pos z]
      · rw [if_neg (by omega), if_neg z, if_neg (by decide), if_neg (by decide), if_neg (by decide)]) (fun i => by
      rw [eS, re_B, if_neg (by omega), if_pos rfl]
      by_cases z : 256 * (12 + (mK g 16 - 1)) ≤ i ∧ i < 256 * (12 + (mK g 16 - 1)) + 256
      · rw [if_pos z, if_pos z, gT_in (by omega), n1]
      · rw [if_neg z, if_neg z]) (fun i => by rw [eS]; exact ⟨rfl, rfl⟩) (fun w hw hb => by
      obtain ⟨t, t1, _, t3⟩ := thW_iff.mp hb
      exact Nat.lt_of_lt_of_le (nxW_lt hwx hw t3) (Nat.pow_le_pow_right (by decide) (Nat.mul_le_mul_left _ t1))) (fun t ht => by
      unfold rpG
      split
      · have := Nat.mod_lt (t - 8 * (12 + (mK g 16 - 1))) (show 0 < mN g 8 (12 + (mK g 16 - 1)) by omega)
        omega
      · exact ht) (fun t ht => by unfold rpG; rw [if_neg (by omega)]) hp (fun j hj => ?_) hR, ?_⟩
  · rw [rpA_n, show M - 1 + 1 = M by omega] at hj
    rw [rpA_tt x l (M - 1) j (by rw [show M - 1 + 1 = M by omega]; exact hj)]
    exact (qx.mv F).2.2.1 (j % x.1) (Nat.mod_lt _ hxn)
  · rw [rRep, if_pos c0]
    have hK : mK (tRep g le mo) 16 = mK g 16 - 1 + 1 := by rw [eS]; show mK g 16 = _; omega
    unfold mTests
    rw [hK, sumTo, e8, sumTo_congr (g := fun k => mN g 8 (12 + k)) (fun j hj => by
      show mN (tRep g le mo) 8 (12 + j) = _
      rw [eS, re_N, if_neg (by omega), mN_tmap, if_neg (by decide), if_neg (by decide), if_neg (by decide)]), show mK g 16 = mK g 16 - 1 + 1 by omega, sumTo, show mK g 16 - 1 + 1 - 1 = mK g 16 - 1 by omega, ← n1]
    omega

