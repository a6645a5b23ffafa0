/-! chain, either, repeat: a step on both sides -/
theorem tcM_tmap {g : mS} {G : Nat → Nat} {t : Nat} : tcM (tmap g G) t = tcM g (G t) := by
  unfold tcM
  congr 1
  · funext k
    split
    · rw [mI_tmap, if_pos rfl, show (3 * t + k) / 3 = t by omega, show (3 * t + k) % 3 = k by omega]
    · rfl
  · congr 1
    funext k
    split
    · rw [mN_tmap, if_pos rfl, show (6 * t + k) / 6 = t by omega, show (6 * t + k) % 6 = k by omega]
    · rfl
/-- the reference's part where the tests are laid as G tells and the ways are W -/
theorem big_step {G : eG} {ad : Nat → Nat → Nat} {h h9 : hp} {g S' : mS} {T : Nat → tC3} {X Y : Nat → pA} {a c n : Nat} {y : pA} {M : Nat → Nat} {W : Nat → Bool} (A : AI g) (k : lnk G ad h g T X Y) (F : cfr ad h h9) (hc : 1 ≤ c ∧ c ≤ mK g 16) (hK : mK S' 16 = mK g 16 - c + 1 ∧ mK S' 15 = mK g 15) (hn : 1 ≤ n ∧ n ≤ 8 ∧ sumTo (fun k => mN g 8 (12 + k)) (mK g 16 - c) + n ≤ 8) (hN : ∀ j i, j ≠ 8 → mN S' j i = mN (tmap g M) j i) (hI : ∀ j i, mI S' j i = mI (tmap g M) j i) (h8 : ∀ p, mN S' 8 p = if p = 12 + (mK g 16 - c) then n else mN g 8 p) (h9' : ∀ p, mB S' 9 p = if p = 12 + (mK g 16 - c) then false else mB g 9 p) (h10 : ∀ i, mB S' 10 i = if 256 * (12 + (mK g 16 - c)) ≤ i ∧ i < 256 * (12 + (mK g 16 - c)) + 256 then W (i - 256 * (12 + (mK g 16 - c))) else mB g 10 i) (h5 : ∀ i, mB S' 5 i = mB g 5 i ∧ mB S' 6 i = mB g 6 i) (hW : ∀ w, w < 256 → W w = true → w < 2 ^ n) (hM : ∀ t, t < 168 → M t < 168) (hM1 : ∀ t, t < 8 * (12 + (mK g 16 - c)) → M t = t) (hp : prA G ad h9 a y false) (ht : ∀ j, j < y.1 → tst G ad h9 (y.2.2.2.2.2.2 j) (T (y.2.2.2.2.2.2 j)).1 (T (y.2.2.2.2.2.2 j)).2.1 (T (y.2.2.2.2.2.2 j)).2.2) (hR : pkR S' (12 + (mK g 16 - c)) y T) : shr S' (psh (poS g c) a) ∧ AI (mrg S' (psh (poS g c) a)) ∧ ∃ T' X', lnk G ad h9 (mrg S' (psh (poS g c) a)) T' X' Y := by
  have I := A.1
  have h15 := pats_le I
  have h16 := pile_le I
  have e9 : mB S' 9 (12 + (mK g 16 - c)) = false := by rw [h9', if_pos rfl]
  have e10 : ∀ w, w < 256 → mB S' 10 (256 * (12 + (mK g 16 - c)) + w) = W w := fun w hw => by rw [h10, if_pos (by omega), Nat.add_sub_cancel_left]
  have tc : ∀ t, tcM S' t = tcM (tmap g M) t := fun t => tcM_congr (fun k _ => hI _ _) (fun k _ => hN _ _ (by decide)) (hN _ _ (by decide)) (hN _ _ (by decide))
  have q := pile_step (c := c) (a := a) (n := n) (y := y) (S' := S') (T' := T) A k F hc.2 (by omega) hK hn (by rw [h8, if_pos rfl]) (fun p hp => ⟨by rw [h8, if_neg hp], by rw [h9', if_neg hp], fun w hw => by rw [h10, if_neg (by omega)]⟩) (fun p hp j hj => by rw [tc, tcM_tmap, hM1 _ (by omega)]) ⟨fun w hw hb => hW w hw (by rw [← e10 w hw]; exact hb), fun hb => by rw [e9] at hb; cases hb⟩ (fun i hi => by
      rw [hN _ _ (by decide), mN_tmap, if_pos rfl]
      have := hM (i / 6) (by omega)
      exact I.2.2.2.2.2.2.1 _ (by omega)) (fun i hi => by
      rw [hN _ _ (by decide), mN_tmap, if_neg (by decide), if_pos rfl]
      exact I.2.2.2.2.2.2.2.1 _ (hM i hi)) (fun i hi => by
      rw [hN _ _ (by decide), mN_tmap, if_neg (by decide), if_neg (by decide), if_pos rfl]
      exact I.2.2.2.2.2.2.2.2.1 _ (hM i hi)) (fun j hj i => by rw [hN _ _ (by omega), mN_tmap, if_neg (by omega), if_neg (by omega), if_neg (by omega)]) h5 (fun i => by rw [hI, mI_tmap, if_neg (by decide)]) (fun b _ => rfl) (by rw [e9]; exact hp) ht hR
  exact ⟨q.1, q.2.1, _, _, q.2.2⟩
theorem pk_both {g S' : mS} {p : Nat} {T : Nat → tC3} {x y z : pA} (hx : pkR g p x T) (hy : pkR g (p + 1) y T) (hz1 : z.1 = x.1 + y.1) (hrs : z.2.2.2.1 = x.2.2.2.1 ||| y.2.2.2.1) (htt : z.2.2.2.2.2.2 = tsT x.1 x.2.2.2.2.2.2 y.2.2.2.2.2.2) (hwf : wfB z) (e8 : mN S' 8 p = x.1 + y.1) (etc : ∀ j, j < x.1 + y.1 → tcM S' (8 * p + j) = cTwo2 x.1 (fun j => tcM g (8 * p + j)) (fun j => tcM g (8 * (p + 1) + j)) j) (hL : ∀ l, lgC z (cTwo2 x.1 (fun j => tcM g (8 * p + j)) (fun j => tcM g (8 * (p + 1) + j))) l ↔ lgM S' p l) : pkR S' p z T := by
  obtain ⟨x1, x2, x3, x4, x5⟩ := hx
  obtain ⟨y1, y2, y3, y4, y5⟩ := hy
  refine ⟨by rw [hz1, e8], hwf, fun j hj => ?_, fun j hj k hk hb => ?_, fun l => ?_⟩
  · rw [hz1] at hj
    rw [htt, etc j hj]
    unfold tsT cTwo2
    split
    · exact x3 j (by assumption)
    · exact y3 _ (by omega)
  · rw [hz1] at hj
    rw [htt] at hb
    rw [hrs]
    unfold tsT at hb
    split at hb
    · exact msk_or y2.2.1.2.2 (by omega) (x4 j (by assumption) k hk hb)
    · exact msk_or' x2.2.1.2.2 (by omega) (y4 _ (by omega) k hk hb)
  · rw [lgC_congr (d := cTwo2 x.1 (fun j => tcM g (8 * p + j)) (fun j => tcM g (8 * (p + 1) + j))) (fun j hj => etc j (by rw [← hz1]; exact hj))]
    exact hL l
theorem lgM_two {g S' : mS} {p n1 n2 : Nat} {W : Nat → Bool} (h1 : mN g 8 p = n1) (h2 : mN g 8 (p + 1) = n2) (h8 : n1 + n2 ≤ 8) (e8 : mN S' 8 p = n1 + n2) (e10 : ∀ w, w < 256 → mB S' 10 (256 * p + w) = W w) (etc : ∀ j, j < n1 + n2 → tcM S' (8 * p + j) = cTwo2 n1 (fun j => tcM g (8 * p + j)) (fun j => tcM g (8 * (p + 1) + j)) j) (l : List cT) : lgM S' p l ↔ ∃ w, w < 2 ^ (n1 + n2) ∧ W w = true ∧ l = pkL (fun j => tcM g (8 * p + j)) (w % 2 ^ n1) n1 ++ pkL (fun j => tcM g (8 * (p + 1) + j)) (w / 2 ^ n1) n2 := by
  have e : 2 ^ (n1 + n2) ≤ 256 := Nat.pow_le_pow_right (n := 2) (by decide) h8
  have q : ∀ w, pkL (fun j => tcM S' (8 * p + j)) w (n1 + n2) = pkL (fun j => tcM g (8 * p + j)) (w % 2 ^ n1) n1 ++ pkL (fun j => tcM g (8 * (p + 1) + j)) (w / 2 ^ n1) n2 := fun w => by
    rw [pkL_congr (d := cTwo2 n1 (fun j => tcM g (8 * p + j)) (fun j => tcM g (8 * (p + 1) + j))) (v := w) (fun j hj => ⟨etc j hj, rfl⟩), pkL_two]
  unfold lgM
  rw [e8]
  constructor
  · rintro ⟨w, a, b, c⟩
    exact ⟨w, a, by rw [← e10 w (by omega)]; exact b, by rw [c, q]⟩
  · rintro ⟨w, a, b, c⟩
    exact ⟨w, a, by rw [e10 w (by omega)]; exact b, by rw [c, q]⟩
theorem tw_B (g : mS) (f : Nat → Bool) (p m n j i : Nat) (M : Nat → Nat) : mB (uK (tBec (chL (tmap (uK g 0 0) M) f 256) p m) 16 n) j i = if j = 9 ∧ i = p then false else if j = 10 then (if 256 * p ≤ i ∧ i < 256 * p + 256 then (if i - 256 * p < 256 then f (i - 256 * p) else mB g 17 (i - 256 * p)) else mB g 10 i) else if j = 17 then (if i < 256 then f i else mB g 17 i) else mB g j i := by
  unfold tBec beL chL
  simp only [mK_uK, mN_uK, mB_uK, mI_uK, mK_uN, mN_uN, mB_uN, mI_uN, mK_uB, mN_uB, mB_uB, mI_uB, mK_uI, mN_uI, mB_uI, mI_uI, mK_sN, mN_sN, mB_sN, mI_sN, mK_sB, mN_sB, mB_sB, mI_sB, mK_sI, mN_sI, mB_sI, mI_sI, mK_tmap, mN_tmap, mB_tmap, mI_tmap]
  grind
theorem tw_N (g : mS) (f : Nat → Bool) (p m n j i : Nat) (M : Nat → Nat) : mN (uK (tBec (chL (tmap (uK g 0 0) M) f 256) p m) 16 n) j i = if j = 8 ∧ i = p then m else mN (tmap g M) j i := by
  unfold tBec beL chL
  simp only [mK_uK, mN_uK, mB_uK, mI_uK, mK_uN, mN_uN, mB_uN, mI_uN, mK_uB, mN_uB, mB_uB, mI_uB, mK_uI, mN_uI, mB_uI, mI_uI, mK_sN, mN_sN, mB_sN, mI_sN, mK_sB, mN_sB, mB_sB, mI_sB, mK_sI, mN_sI, mB_sI, mI_sI, mK_tmap, mN_tmap, mB_tmap, mI_tmap]
theorem tw_I (g : mS) (f : Nat → Bool) (p m n j i : Nat) (M : Nat → Nat) : mI (uK (tBec (chL (tmap (uK g 0 0) M) f 256) p m) 16 n) j i = mI (tmap g M) j i := by
  unfold tBec beL chL
  simp only [mK_uK, mN_uK, mB_uK, mI_uK, mK_uN, mN_uN, mB_uN, mI_uN, mK_uB, mN_uB, mB_uB, mI_uB, mK_uI, mN_uI, mB_uI, mI_uI, mK_sN, mN_sN, mB_sN, mI_sN, mK_sB, mN_sB, mB_sB, mI_sB, mK_sI, mN_sI, mB_sI, mI_sI, mK_tmap, mN_tmap, mB_tmap, mI_tmap]
theorem two_step {G : eG} {ad : Nat → Nat → Nat} {h h9 : hp} {g : mS} {T : Nat → tC3} {X Y : Nat → pA} {a : Nat} {z : pA} {f : mS → Nat → Nat → Bool} (A : AI g) (k : lnk G ad h g T X Y) (F : cfr ad h h9) (c0 : cTwo g = 0) (hz1 : z.1 = (X (mK g 16 - 2)).1 + (X (mK g 16 - 1)).1) (hrs : z.2.2.2.1 = (X (mK g 16 - 2)).2.2.2.1 ||| (X (mK g 16 - 1)).2.2.2.1) (htt : z.2.2.2.2.2.2 = tsT (X (mK g 16 - 2)).1 (X (mK g 16 - 2)).2.2.2.2.2.2 (X (mK g 16 - 1)).2.2.2.2.2.2) (hwf : wfB z) (hW : ∀ w, w < 256 → f g (12 + mK g 16 - 2) w = true → w < 2 ^ ((X (mK g 16 - 2)).1 + (X (mK g 16 - 1)).1)) (hp : prA G ad h9 a z false) (hL : ∀ l, lgC z (cTwo2 (X (mK g 16 - 2)).1 (fun j => tcM g (8 * (12 + (mK g 16 - 2)) + j)) (fun j => tcM g (8 * (12 + (mK g 16 - 2) + 1) + j))) l ↔ ∃ w, w < 2 ^ ((X (mK g 16 - 2)).1 + (X (mK g 16 - 1)).1) ∧ f g (12 + mK g 16 - 2) w = true ∧ l = pkL (fun j => tcM g (8 * (12 + (mK g 16 - 2)) + j)) (w % 2 ^ (X (mK g 16 - 2)).1) (X (mK g 16 - 2)).1 ++ pkL (fun j => tcM g (8 * (12 + (mK g 16 - 2) + 1) + j)) (w / 2 ^ (X (mK g 16 - 2)).1) (X (mK g 16 - 1)).1) : shr (tTwo g f) (psh (poS g 2) a) ∧ AI (mrg (tTwo g f) (psh (poS g 2) a)) ∧ ∃ T' X', lnk G ad h9 (mrg (tTwo g f) (psh (poS g 2) a)) T' X' Y := by
  have I := A.1
  have h16 := pile_le I
  have h2 : 2 ≤ mK g 16 := by
    refine Nat.le_of_not_lt fun z => ?_
    rw [cTwo, if_pos z] at c0; cases c0
  have qx := k.1 (mK g 16 - 2) (by omega)
  have qy := k.1 (mK g 16 - 1) (by omega)
  rw [show 12 + (mK g 16 - 1) = 12 + (mK g 16 - 2) + 1 by omega] at qy
  have n1 := qx.2.2.2.1
  have n2 := qy.2.2.2.1
  have m1 := qx.2.2.2.2.1.1
  have m2 := qy.2.2.2.2.1.1
  have pair := mInv_pair I h2
  rw [show 12 + mK g 16 - 2 = 12 + (mK g 16 - 2) by omega] at pair
  have eS : tTwo g f = uK (tBec (chL (tmap (uK g 0 0) (laG (8 * (12 + (mK g 16 - 2)) + mN g 8 (12 + (mK g 16 - 2))) (8 * (12 + (mK g 16 - 2) + 1)) (mN g 8 (12 + (mK g 16 - 2) + 1)))) (f g (12 + mK g 16 - 2)) 256) (12 + (mK g 16 - 2)) (mN g 8 (12 + (mK g 16 - 2)) + mN g 8 (12 + (mK g 16 - 2) + 1))) 16 (mK g 16 - 1) := by
    rw [tTwo, if_pos c0, show 12 + mK g 16 - 2 = 12 + (mK g 16 - 2) by omega]
    unfold tLays
    rw [show mK (uK g 0 0) 16 = mK g 16 from rfl, show 12 + mK g 16 - 2 = 12 + (mK g 16 - 2) by omega]
    rfl
  have sum := sum_top (f := fun k => mN g 8 (12 + k)) (k := mK g 16) (c := 1) (by omega)
  have sum2 := sum_top (f := fun k => mN g 8 (12 + k)) (k := mK g 16) (c := 0) (by omega)
  have sum3 := sumTo_s (f := fun k => mN g 8 (12 + k)) (k := mK g 16 - 2)
  have hT8 : sumTo (fun k => mN g 8 (12 + k)) (mK g 16) ≤ 8 := mTests_le I
  rw [show mK g 16 - 2 + 1 = mK g 16 - 1 by omega] at sum3
  replace sum2 : sumTo (fun k => mN g 8 (12 + k)) (mK g 16 - 1) + mN g 8 (12 + (mK g 16 - 1)) ≤ sumTo (fun k => mN g 8 (12 + k)) (mK g 16) := sum2
  rw [show 12 + (mK g 16 - 1) = 12 + (mK g 16 - 2) + 1 by omega] at sum2
  have e8 : mN (tTwo g f) 8 (12 + (mK g 16 - 2)) = (X (mK g 16 - 2)).1 + (X (mK g 16 - 1)).1 := by rw [eS, tw_N, if_pos ⟨rfl, rfl⟩, n1, n2]
  have e10 : ∀ w, w < 256 → mB (tTwo g f) 10 (256 * (12 + (mK g 16 - 2)) + w) = f g (12 + mK g 16 - 2) w := fun w hw => by
    rw [eS, tw_B, if_neg (by omega), if_pos rfl, if_pos (by omega), Nat.add_sub_cancel_left, if_pos hw]
  have etc : ∀ j, j < (X (mK g 16 - 2)).1 + (X (mK g 16 - 1)).1 → tcM (tTwo g f) (8 * (12 + (mK g 16 - 2)) + j) = cTwo2 (X (mK g 16 - 2)).1 (fun j => tcM g (8 * (12 + (mK g 16 - 2)) + j)) (fun j => tcM g (8 * (12 + (mK g 16 - 2) + 1) + j)) j := fun j hj => by
    have : tcM (tTwo g f) (8 * (12 + (mK g 16 - 2)) + j) = tcM (tmap g (laG (8 * (12 + (mK g 16 - 2)) + mN g 8 (12 + (mK g 16 - 2))) (8 * (12 + (mK g 16 - 2) + 1)) (mN g 8 (12 + (mK g 16 - 2) + 1)))) (8 * (12 + (mK g 16 - 2)) + j) := tcM_congr (fun k _ => by rw [eS, tw_I]) (fun k _ => by rw [eS, tw_N, if_neg (by omega)]) (by rw [eS, tw_N, if_neg (by omega)]) (by rw [eS, tw_N, if_neg (by omega)])
    rw [this, tcM_tmap]
    unfold laG cTwo2
    by_cases c : j < (X (mK g 16 - 2)).1
    · rw [if_pos c, if_neg (by omega)]
    · rw [if_neg c, if_pos (by omega)]
      show tcM g _ = tcM g _
      congr 1
      omega
  refine big_step (c := 2) (n := (X (mK g 16 - 2)).1 + (X (mK g 16 - 1)).1) (W := f g (12 + mK g 16 - 2)) (M := laG (8 * (12 + (mK g 16 - 2)) + mN g 8 (12 + (mK g 16 - 2))) (8 * (12 + (mK g 16 - 2) + 1)) (mN g 8 (12 + (mK g 16 - 2) + 1))) A k F ⟨by omega, h2⟩ ⟨by rw [eS]; show mK g 16 - 1 = _; omega, by rw [eS]; rfl⟩ ⟨by omega, by omega, by omega⟩ (fun j i hj => by rw [eS, tw_N, if_neg (by omega)]) (fun j i => by rw [eS, tw_I]) (fun p => by
      rw [eS, tw_N, n1, n2]
      by_cases z : p = 12 + (mK g 16 - 2)
      · rw [if_pos ⟨rfl, z⟩, if_pos z]
      · rw [if_neg (by omega), if_neg z, mN_tmap, if_neg (by decide), if_neg (by decide), if_neg (by decide)]) (fun p => by
      rw [eS, tw_B]
      by_cases z : p = 12 + (mK g 16 - 2)
      · rw [if_pos ⟨rfl, z⟩, if_pos z]
      · rw [if_neg (by omega), if_neg z, if_neg (by decide), if_neg (by decide)]) (fun i => by
      rw [eS, tw_B, if_neg (by omega), if_pos rfl]
      by_cases z : 256 * (12 + (mK g 16 - 2)) ≤ i ∧ i < 256 * (12 + (mK g 16 - 2)) + 256
      · rw [if_pos z, if_pos z, if_pos (by omega)]
      · rw [if_neg z, if_neg z]) (fun i => by rw [eS]; exact ⟨rfl, rfl⟩) hW (fun t ht => by unfold laG; split <;> omega) (fun t ht => by unfold laG; rw [if_neg (by omega)]) hp (fun j hj => ?_) (pk_both qx.2.2.2 qy.2.2.2 hz1 hrs htt hwf e8 etc (fun l => (hL l).trans (lgM_two n1.symm n2.symm (by omega) e8 e10 etc l).symm))
  rw [hz1] at hj
  rw [htt]
  unfold tsT
  split
  · exact (qx.mv F).2.2.1 j (by assumption)
  · exact (qy.mv F).2.2.1 _ (by omega)
theorem lgM_ways {g : mS} {p : Nat} {l : List cT} : lgM g p l ↔ ∃ w, w < 2 ^ mN g 8 p ∧ mB g 10 (256 * p + w) = true ∧ l = pkL (fun j => tcM g (8 * p + j)) w (mN g 8 p) := Iff.rfl
theorem wB_lt {g : mS} (I : mInv g) {p w : Nat} (hp : 12 ≤ p ∧ p < 12 + mK g 16) (hw : w < 256) (h : mB g 10 (256 * p + w) = true) : w < 2 ^ mN g 8 p := (I.2.2.2.2.2.2.2.2.2.2.2.2.2.2.2 p (Or.inr hp)).2.1 w hw h
theorem step_chain {G : eG} {ad : Nat → Nat → Nat} {h h9 : hp} {g : mS} {T : Nat → tC3} {X Y : Nat → pA} {a : Nat} (A : AI g) (k : lnk G ad h g T X Y) (F : cfr ad h h9) (c0 : cTwo g = 0) (hp : prA G ad h9 a (chA (X (mK g 16 - 1 - 1)) (X (mK g 16 - 1 - 0))) false) : shr (tTwo g wCh) (psh (poS g 2) a) ∧ AI (mrg (tTwo g wCh) (psh (poS g 2) a)) ∧ ∃ T' X', lnk G ad h9 (mrg (tTwo g wCh) (psh (poS g 2) a)) T' X' Y := by
  have I := A.1
  have h16 := pile_le I
  have h2 : 2 ≤ mK g 16 := by
    refine Nat.le_of_not_lt fun z => ?_
    rw [cTwo, if_pos z] at c0; cases c0
  rw [show mK g 16 - 1 - 1 = mK g 16 - 2 by omega, show mK g 16 - 1 - 0 = mK g 16 - 1 by omega] at hp
  have qx := (k.1 (mK g 16 - 2) (by omega)).2.2.2
  have qy := (k.1 (mK g 16 - 1) (by omega)).2.2.2
  rw [show 12 + (mK g 16 - 1) = 12 + (mK g 16 - 2) + 1 by omega] at qy
  have pair := mInv_pair I h2
  rw [show 12 + mK g 16 - 2 = 12 + (mK g 16 - 2) by omega, ← qx.1, ← qy.1] at pair
  have p8 : 2 ^ ((X (mK g 16 - 2)).1 + (X (mK g 16 - 1)).1) ≤ 256 := Nat.pow_le_pow_right (n := 2) (by decide) pair
  have wv : ∀ w, wCh g (12 + mK g 16 - 2) w = (mB g 10 (256 * (12 + (mK g 16 - 2)) + w % 2 ^ (X (mK g 16 - 2)).1) && mB g 10 (256 * (12 + (mK g 16 - 2) + 1) + w / 2 ^ (X (mK g 16 - 2)).1)) := fun w => by
    unfold wCh
    rw [show 12 + mK g 16 - 2 = 12 + (mK g 16 - 2) by omega, ← qx.1]
  refine two_step A k F c0 rfl rfl rfl (wfB_chain qx.2.1 qy.2.1 pair) (fun w hw hb => ?_) hp (fun l => ?_)
  · rw [wv, Bool.and_eq_true] at hb
    have h3 := wB_lt I (p := 12 + (mK g 16 - 2) + 1) (by omega) (Nat.lt_of_le_of_lt (Nat.div_le_self _ _) hw) hb.2
    rw [← qy.1] at h3
    rw [Nat.pow_add]
    have := Nat.div_add_mod w (2 ^ (X (mK g 16 - 2)).1)
    have h4 := Nat.mod_lt w (Nat.two_pow_pos (X (mK g 16 - 2)).1)
    have h5 : 2 ^ (X (mK g 16 - 2)).1 * (w / 2 ^ (X (mK g 16 - 2)).1 + 1) ≤ 2 ^ (X (mK g 16 - 2)).1 * 2 ^ (X (mK g 16 - 1)).1 := Nat.mul_le_mul_left _ h3
    rw [Nat.mul_succ] at h5
    omega
  · rw [lg_chain qx.2.1 qy.2.1]
    constructor
    · rintro ⟨l1, l2, a1, a2, rfl⟩
      obtain ⟨w1, b1, b2, b3⟩ := (qx.2.2.2.2 l1).mp a1
      obtain ⟨w2, d1, d2, d3⟩ := (qy.2.2.2.2 l2).mp a2
      rw [← qx.1] at b1 b3
      rw [← qy.1] at d1 d3
      obtain ⟨e1, e2⟩ := wTwo_of (n1 := (X (mK g 16 - 2)).1) (w2 := w2) b1
      exact ⟨wTwo (X (mK g 16 - 2)).1 w1 w2, wTwo_lt b1 d1, by rw [wv, e1, e2, b2, d2]; rfl, by rw [e1, e2, ← b3, ← d3]⟩
    · rintro ⟨w, hw, hb, rfl⟩
      rw [wv, Bool.and_eq_true] at hb
      exact ⟨_, _, (qx.2.2.2.2 _).mpr ⟨w % 2 ^ (X (mK g 16 - 2)).1, by rw [← qx.1]; exact Nat.mod_lt _ (Nat.two_pow_pos _), hb.1, by rw [← qx.1]⟩, (qy.2.2.2.2 _).mpr ⟨w / 2 ^ (X (mK g 16 - 2)).1, by rw [← qy.1]; exact div_lt2 hw, hb.2, by rw [← qy.1]⟩, rfl⟩
theorem step_either {G : eG} {ad : Nat → Nat → Nat} {h h9 : hp} {g : mS} {T : Nat → tC3} {X Y : Nat → pA} {a : Nat} (A : AI g) (k : lnk G ad h g T X Y) (F : cfr ad h h9) (c0 : cTwo g = 0) (hp : prA G ad h9 a (eiA (X (mK g 16 - 1 - 1)) (X (mK g 16 - 1 - 0))) false) : shr (tTwo g wEi) (psh (poS g 2) a) ∧ AI (mrg (tTwo g wEi) (psh (poS g 2) a)) ∧ ∃ T' X', lnk G ad h9 (mrg (tTwo g wEi) (psh (poS g 2) a)) T' X' Y := by
  have I := A.1
  have h16 := pile_le I
  have h2 : 2 ≤ mK g 16 := by
    refine Nat.le_of_not_lt fun z => ?_
    rw [cTwo, if_pos z] at c0; cases c0
  rw [show mK g 16 - 1 - 1 = mK g 16 - 2 by omega, show mK g 16 - 1 - 0 = mK g 16 - 1 by omega] at hp
  have qx := (k.1 (mK g 16 - 2) (by omega)).2.2.2
  have qy := (k.1 (mK g 16 - 1) (by omega)).2.2.2
  rw [show 12 + (mK g 16 - 1) = 12 + (mK g 16 - 2) + 1 by omega] at qy
  have pair := mInv_pair I h2
  rw [show 12 + mK g 16 - 2 = 12 + (mK g 16 - 2) by omega, ← qx.1, ← qy.1] at pair
  have wv : ∀ w, wEi g (12 + mK g 16 - 2) w = true ↔ (w < 2 ^ (X (mK g 16 - 2)).1 ∧ mB g 10 (256 * (12 + (mK g 16 - 2)) + w) = true) ∨ (w % 2 ^ (X (mK g 16 - 2)).1 = 0 ∧ mB g 10 (256 * (12 + (mK g 16 - 2) + 1) + w / 2 ^ (X (mK g 16 - 2)).1) = true) := fun w => by
    unfold wEi
    rw [show 12 + mK g 16 - 2 = 12 + (mK g 16 - 2) by omega, ← qx.1]
    simp only [Bool.or_eq_true, Bool.and_eq_true, decide_eq_true_eq]
  refine two_step A k F c0 rfl rfl rfl (wfB_either qx.2.1 qy.2.1 pair) (fun w hw hb => ?_) hp (fun l => ?_)
  · rcases (wv w).mp hb with ⟨h3, _⟩ | ⟨h3, h4⟩
    · exact pow_up h3
    · have h5 := wB_lt I (p := 12 + (mK g 16 - 2) + 1) (by omega) (Nat.lt_of_le_of_lt (Nat.div_le_self _ _) hw) h4
      rw [← qy.1] at h5
      rw [Nat.pow_add]
      have := Nat.div_add_mod w (2 ^ (X (mK g 16 - 2)).1)
      have h7 := Nat.two_pow_pos (X (mK g 16 - 2)).1
      have h6 : 2 ^ (X (mK g 16 - 2)).1 * (w / 2 ^ (X (mK g 16 - 2)).1 + 1) ≤ 2 ^ (X (mK g 16 - 2)).1 * 2 ^ (X (mK g 16 - 1)).1 := Nat.mul_le_mul_left _ h5
      rw [Nat.mul_succ] at h6
      omega
  · rw [lg_either qx.2.1 qy.2.1]
    constructor
    · rintro (a1 | a2)
      · obtain ⟨w1, b1, b2, b3⟩ := (qx.2.2.2.2 l).mp a1
        rw [← qx.1] at b1 b3
        refine ⟨w1, pow_up b1, (wv w1).mpr (Or.inl ⟨b1, b2⟩), ?_⟩
        rw [Nat.mod_eq_of_lt b1, Nat.div_eq_of_lt b1, pkL_0, List.append_nil]; exact b3
      · obtain ⟨w2, d1, d2, d3⟩ := (qy.2.2.2.2 l).mp a2
        rw [← qy.1] at d1 d3
        obtain ⟨e1, e2⟩ := wTwo_of (n1 := (X (mK g 16 - 2)).1) (w2 := w2) (Nat.two_pow_pos _)
        exact ⟨wTwo (X (mK g 16 - 2)).1 0 w2, wTwo_lt (Nat.two_pow_pos _) d1, (wv _).mpr (Or.inr ⟨e1, by rw [e2]; exact d2⟩), by rw [e1, e2, pkL_0, List.nil_append]; exact d3⟩
    · rintro ⟨w, hw, hb, rfl⟩
      rcases (wv w).mp hb with ⟨h3, h4⟩ | ⟨h3, h4⟩
      · left
        rw [Nat.mod_eq_of_lt h3, Nat.div_eq_of_lt h3, pkL_0, List.append_nil]
        exact (qx.2.2.2.2 _).mpr ⟨w, by rw [← qx.1]; exact h3, h4, by rw [← qx.1]⟩
      · right
        rw [h3, pkL_0, List.nil_append]
        exact (qy.2.2.2.2 _).mpr ⟨w / 2 ^ (X (mK g 16 - 2)).1, by rw [← qy.1]; exact div_lt2 hw, h4, by rw [← qy.1]⟩

