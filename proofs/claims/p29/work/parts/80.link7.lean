/-! keep, wipe, and the calls on sides: a step on both sides -/
theorem ke_B (g : mS) (a t n j i : Nat) : mB (uK (uK (tPart (uK g 0 0) a t) 16 0) 15 n) j i = if j = 10 then (if 256 * t ≤ i ∧ i < 256 * t + 256 then mB g 10 (256 * a + (i - 256 * t)) else mB g 10 i) else if j = 9 ∧ i = t then mB g 9 a else mB g j i := by
  unfold tPart cpP
  simp only [mK_uK, mN_uK, mB_uK, mI_uK, mK_uN, mN_uN, mB_uN, mI_uN, mK_uB, mN_uB, mB_uB, mI_uB, mK_uI, mN_uI, mB_uI, mI_uI, mK_sN, mN_sN, mB_sN, mI_sN, mK_sB, mN_sB, mB_sB, mI_sB, mK_sI, mN_sI, mB_sI, mI_sI, mK_tmap, mN_tmap, mB_tmap, mI_tmap]
theorem ke_N (g : mS) (a t n j i : Nat) : mN (uK (uK (tPart (uK g 0 0) a t) 16 0) 15 n) j i = if j = 8 ∧ i = t then mN g 8 a else mN (tmap g (laG (8 * t) (8 * a) 8)) j i := by
  unfold tPart cpP
  simp only [mK_uK, mN_uK, mB_uK, mI_uK, mK_uN, mN_uN, mB_uN, mI_uN, mK_uB, mN_uB, mB_uB, mI_uB, mK_uI, mN_uI, mB_uI, mI_uI, mK_sN, mN_sN, mB_sN, mI_sN, mK_sB, mN_sB, mB_sB, mI_sB, mK_sI, mN_sI, mB_sI, mI_sI, mK_tmap, mN_tmap, mB_tmap, mI_tmap]
  grind
theorem ke_I (g : mS) (a t n j i : Nat) : mI (uK (uK (tPart (uK g 0 0) a t) 16 0) 15 n) j i = mI (tmap g (laG (8 * t) (8 * a) 8)) j i := by
  unfold tPart cpP
  simp only [mK_uK, mN_uK, mB_uK, mI_uK, mK_uN, mN_uN, mB_uN, mI_uN, mK_uB, mN_uB, mB_uB, mI_uB, mK_uI, mN_uI, mB_uI, mI_uI, mK_sN, mN_sN, mB_sN, mI_sN, mK_sB, mN_sB, mB_sB, mI_sB, mK_sI, mN_sI, mB_sI, mI_sI, mK_tmap, mN_tmap, mB_tmap, mI_tmap]
theorem step_keep {G : eG} {ad : Nat → Nat → Nat} {h h9 : hp} {g : mS} {T : Nat → tC3} {X Y : Nat → pA} (A : AI g) (k : lnk G ad h g T X Y) (F : cfr ad h h9) (c0 : cKeep g = 0) : shr (tKeep g) (poS (uK (uN g 61 (mK g 15) (mN g 60 0 - 1 + 1)) 15 (mK g 15 + 1)) 1) ∧ AI (mrg (tKeep g) (poS (uK (uN g 61 (mK g 15) (mN g 60 0 - 1 + 1)) 15 (mK g 15 + 1)) 1)) ∧ ∃ T' X' Y', lnk G ad h9 (mrg (tKeep g) (poS (uK (uN g 61 (mK g 15) (mN g 60 0 - 1 + 1)) 15 (mK g 15 + 1)) 1)) T' X' Y' := by
  have I := A.1
  have hc : mK g 16 = 1 ∧ mK g 15 ≠ 12 := by
    refine Classical.byContradiction fun z => ?_
    rw [cKeep, if_neg z] at c0; cases c0
  have h15 := pats_le I
  have eS : tKeep g = uK (uK (tPart (uK g 0 0) 12 (mK g 15)) 16 0) 15 (mK g 15 + 1) := by rw [tKeep, if_pos c0]
  have q := (k.1 0 (by omega)).mv F
  generalize hg9 : poS (uK (uN g 61 (mK g 15) (mN g 60 0 - 1 + 1)) 15 (mK g 15 + 1)) 1 = g9
  have e9N : ∀ j i, j ≠ 60 → mN g9 j i = if j = 61 ∧ i = mK g 15 then mN g 60 0 - 1 + 1 else mN g j i := fun j i hj => by
    rw [← hg9]
    show mN (sN (uK (uN g 61 (mK g 15) (mN g 60 0 - 1 + 1)) 15 (mK g 15 + 1)) 60 _) j i = _
    rw [mN_sN, if_neg hj]; rfl
  have e9K : ∀ j, mK g9 j = if j = 16 then 0 else if j = 15 then mK g 15 + 1 else mK g j := fun j => by
    rw [← hg9]
    show (if j = 16 then mK g 16 - 1 else if j = 15 then mK g 15 + 1 else mK g j) = _
    rw [hc.1]
  have e9B : ∀ j i, mB g9 j i = mB g j i := fun j i => by rw [← hg9]; rfl
  have tc : ∀ p, p < 21 → ∀ j, j < 8 → tcM (tKeep g) (8 * p + j) = if p = mK g 15 then tcM g (8 * 12 + j) else tcM g (8 * p + j) := fun p hp j hj => by
    have : tcM (tKeep g) (8 * p + j) = tcM (tmap g (laG (8 * mK g 15) (8 * 12) 8)) (8 * p + j) := tcM_congr (fun k _ => by rw [eS, ke_I]) (fun k _ => by rw [eS, ke_N, if_neg (by omega)]) (by rw [eS, ke_N, if_neg (by omega)]) (by rw [eS, ke_N, if_neg (by omega)])
    rw [this, tcM_tmap]
    unfold laG
    by_cases c : p = mK g 15
    · rw [if_pos c, if_pos (by omega), c, Nat.add_sub_cancel_left]
    · rw [if_neg c, if_neg (by omega)]
  have t8 : ∀ p, mN (tKeep g) 8 p = if p = mK g 15 then mN g 8 12 else mN g 8 p := fun p => by
    rw [eS, ke_N]
    by_cases c : p = mK g 15
    · rw [if_pos ⟨rfl, c⟩, if_pos c]
    · rw [if_neg (by omega), if_neg c, mN_tmap, if_neg (by decide), if_neg (by decide), if_neg (by decide)]
  have t9 : ∀ p, mB (tKeep g) 9 p = if p = mK g 15 then mB g 9 12 else mB g 9 p := fun p => by
    rw [eS, ke_B, if_neg (by decide)]
    by_cases c : p = mK g 15
    · rw [if_pos ⟨rfl, c⟩, if_pos c]
    · rw [if_neg (by omega), if_neg c]
  have t10 : ∀ p w, w < 256 → mB (tKeep g) 10 (256 * p + w) = if p = mK g 15 then mB g 10 (256 * 12 + w) else mB g 10 (256 * p + w) := fun p w hw => by
    rw [eS, ke_B, if_pos rfl]
    by_cases c : p = mK g 15
    · rw [if_pos (by omega), if_pos c, c, Nat.add_sub_cancel_left]
    · rw [if_neg (by omega), if_neg c]
  have tN : ∀ j i, j ≠ 8 → mN (tKeep g) j i = mN (tmap g (laG (8 * mK g 15) (8 * 12) 8)) j i := fun j i hj => by rw [eS, ke_N, if_neg (by omega)]
  have la : ∀ t, t < 168 → laG (8 * mK g 15) (8 * 12) 8 t < 168 := fun t ht => by unfold laG; split <;> omega
  have I' : mInv (tKeep g) := by
    obtain ⟨a1, a2, a3, a4, a5, a6, a7, a8, a9, a10, a11, a12, a13, a14, a15, a16⟩ := I
    have tN' : ∀ j i, (j = 1 ∨ j = 2 ∨ j = 3 ∨ j = 4 ∨ j = 7 ∨ j = 21) → mN (tKeep g) j i = mN g j i := fun j i hj => by rw [tN j i (by omega), mN_tmap, if_neg (by omega), if_neg (by omega), if_neg (by omega)]
    have tI : ∀ i, mI (tKeep g) 20 i = mI g 20 i := fun i => by rw [eS, ke_I, mI_tmap, if_neg (by decide)]
    have tK : mK (tKeep g) 16 = 0 ∧ mK (tKeep g) 15 = mK g 15 + 1 := by rw [eS]; exact ⟨rfl, rfl⟩
    refine ⟨fun s hs => by rw [tN' _ _ (by decide)]; exact a1 s hs, fun i hi => by rw [tN' _ _ (by decide)]; exact a2 i hi, fun i hi => by rw [tN' _ _ (by decide)]; exact a3 i hi, fun i hi => by rw [tN' _ _ (by decide)]; exact a4 i hi, fun i hi => by rw [tN' _ _ (by decide)]; exact a5 i hi, fun p hp => ?_, fun i hi => ?_, fun i hi => ?_, fun i hi => ?_, by rw [tK.2]; omega, by rw [tK.1]; omega, ?_, fun r hr => by rw [tI]; exact a13 r hr, fun i hi => by rw [tN' _ _ (by decide)]; exact a14 i hi, fun r s hr hs he kk hk z hz hb => ?_, fun p hp => ?_⟩
    · rw [t8]; split
      · exact a6 12 (by decide)
      · exact a6 p hp
    · rw [tN _ _ (by decide), mN_tmap, if_pos rfl]
      have := la (i / 6) (by omega)
      exact a7 _ (by omega)
    · rw [tN _ _ (by decide), mN_tmap, if_neg (by decide), if_pos rfl]; exact a8 _ (la i hi)
    · rw [tN _ _ (by decide), mN_tmap, if_neg (by decide), if_neg (by decide), if_pos rfl]; exact a9 _ (la i hi)
    · unfold mTests; rw [tK.1]; exact Nat.zero_le _
    · rw [tI] at he
      rw [tN' _ _ (by decide)] at hb ⊢
      exact a15 r s hr hs he kk hk z hz hb
    · rw [tK.1, tK.2] at hp
      have e : ∀ p', (p' < mK g 15 ∨ 12 ≤ p' ∧ p' < 12 + mK g 16) → (mN (tKeep g) 8 p = mN g 8 p' ∧ mB (tKeep g) 9 p = mB g 9 p' ∧ ∀ w, w < 256 → mB (tKeep g) 10 (256 * p + w) = mB g 10 (256 * p' + w)) → 1 ≤ mN (tKeep g) 8 p ∧ (∀ w, w < 256 → mB (tKeep g) 10 (256 * p + w) = true → w < 2 ^ mN (tKeep g) 8 p) ∧ (mB (tKeep g) 9 p = true → mN (tKeep g) 8 p = 1 ∧ ∀ w, w < 256 → mB (tKeep g) 10 (256 * p + w) = decide (w = 1)) := fun p' hp' ⟨x1, x2, x3⟩ => by
        obtain ⟨b1, b2, b3⟩ := a16 p' hp'
        rw [x1]
        refine ⟨b1, fun w hw hb => b2 w hw (by rw [← x3 w hw]; exact hb), fun hb => ?_⟩
        rw [x2] at hb
        obtain ⟨c1, c2⟩ := b3 hb
        exact ⟨c1, fun w hw => by rw [x3 w hw]; exact c2 w hw⟩
      by_cases c : p = mK g 15
      · exact e 12 (by omega) ⟨by rw [t8, if_pos c], by rw [t9, if_pos c], fun w hw => by rw [t10 p w hw, if_pos c]⟩
      · exact e p (by omega) ⟨by rw [t8, if_neg c], by rw [t9, if_neg c], fun w hw => by rw [t10 p w hw, if_neg c]⟩
  have tI : ∀ i, mI (tKeep g) 20 i = mI g 20 i := fun i => by rw [eS, ke_I, mI_tmap, if_neg (by decide)]
  refine ⟨⟨⟨by rw [eS, e9K]; rfl, by rw [eS, e9K]; rfl⟩, fun j hj i => by rw [tN j i (by omega), mN_tmap, if_neg (by omega), if_neg (by omega), if_neg (by omega), e9N j i (by omega), if_neg (by omega)], fun i => ⟨by rw [eS, ke_B, if_neg (by decide), if_neg (by omega), e9B], by rw [eS, ke_B, if_neg (by decide), if_neg (by omega), e9B]⟩⟩, AI_part A I' (fun i => by rw [mg_B, if_neg (by decide), e9B]) tI (fun j hj i => ?_) ⟨by rw [mg_B, if_neg (by decide), e9B], by rw [mg_B, if_neg (by decide), e9B], by rw [mg_K, if_neg (by decide), e9K]; rfl⟩, T, X, (fun p => if p = mK g 15 then X 0 else Y p), ?_, ?_⟩
  · rw [mg_N]
    rcases hj with e | e | e | e <;> subst e
    · rw [if_neg (by decide), e9N _ _ (by decide), if_neg (by omega)]
    · rw [if_neg (by decide), e9N _ _ (by decide), if_neg (by omega)]
    · rw [if_pos (by decide), tN _ _ (by decide), mN_tmap, if_neg (by decide), if_neg (by decide), if_neg (by decide)]
    · rw [if_neg (by decide), e9N _ _ (by decide), if_neg (by omega)]
  · intro i hi
    rw [mg_K, if_pos (by decide), eS] at hi
    exact absurd hi (Nat.not_lt_zero _)
  · intro p hp
    have hp' : p < mK g 15 + 1 := by
      rw [mg_K, if_pos (by decide), eS] at hp; exact hp
    show ∃ is, pk1 G ad h9 (mrg (tKeep g) g9) T p (mN (mrg (tKeep g) g9) 61 p) (if p = mK g 15 then X 0 else Y p) is
    have e61 : mN (mrg (tKeep g) g9) 61 p = if p = mK g 15 then mN g 60 0 - 1 + 1 else mN g 61 p := by
      rw [mg_N, if_neg (by decide), e9N _ _ (by decide)]
      by_cases c : p = mK g 15
      · rw [if_pos ⟨rfl, c⟩, if_pos c]
      · rw [if_neg (by omega), if_neg c]
    by_cases c : p = mK g 15
    · rw [if_pos c]
      exact ⟨_, q.to (by rw [e61, if_pos c]; have := q.1; omega) rfl (by show mN (tKeep g) 8 p = _; rw [t8, if_pos c]) (fun w hw => by show mB (tKeep g) 10 (256 * p + w) = _; rw [t10 p w hw, if_pos c]) (fun j hj => by show tcM (tKeep g) (8 * p + j) = _; rw [tc p (by omega) j hj, if_pos c]) (fun _ _ => rfl)⟩
    · rw [if_neg c]
      obtain ⟨is, r⟩ := k.2 p (by omega)
      exact ⟨is, (r.mv F).to (by rw [e61, if_neg c]) rfl (by show mN (tKeep g) 8 p = _; rw [t8, if_neg c]) (fun w hw => by show mB (tKeep g) 10 (256 * p + w) = _; rw [t10 p w hw, if_neg c]) (fun j hj => by show tcM (tKeep g) (8 * p + j) = _; rw [tc p (by omega) j hj, if_neg c]) (fun _ _ => rfl)⟩
theorem step_wipe {G : eG} {ad : Nat → Nat → Nat} {h h9 : hp} {g : mS} {T : Nat → tC3} {X Y : Nat → pA} (A : AI g) (k : lnk G ad h g T X Y) (F : cfr ad h h9) : shr (uK (uK g 0 0) 16 0) (poS g (mK g 16)) ∧ AI (mrg (uK (uK g 0 0) 16 0) (poS g (mK g 16))) ∧ lnk G ad h9 (mrg (uK (uK g 0 0) 16 0) (poS g (mK g 16))) T X Y := by
  have I := A.1
  have I' : mInv (uK (uK g 0 0) 16 0) := by
    obtain ⟨a1, a2, a3, a4, a5, a6, a7, a8, a9, a10, a11, a12, a13, a14, a15, a16⟩ := I
    exact ⟨a1, a2, a3, a4, a5, a6, a7, a8, a9, a10, Nat.zero_le _, Nat.zero_le _, a13, a14, a15, fun p hp => a16 p (by
      have e : mK (uK (uK g 0 0) 16 0) 16 = 0 := rfl
      have e2 : mK (uK (uK g 0 0) 16 0) 15 = mK g 15 := rfl
      rw [e, e2] at hp
      omega)⟩
  have eN : ∀ j i, j ≠ 60 → mN (poS g (mK g 16)) j i = mN g j i := fun j i hj => by
    show mN (sN g 60 _) j i = _
    rw [mN_sN, if_neg hj]
  refine ⟨⟨⟨rfl, by show 0 = mK g 16 - mK g 16; omega⟩, fun j hj i => (eN j i (by omega)).symm, fun i => ⟨rfl, rfl⟩⟩, AI_part A I' (fun _ => rfl) (fun _ => rfl) (fun j hj i => ?_) ⟨rfl, rfl, rfl⟩, fun i hi => absurd hi (Nat.not_lt_zero _), fun p hp => ?_⟩
  · rw [mg_N]
    rcases hj with e | e | e | e <;> subst e
    · rw [if_neg (by decide)]; exact eN _ _ (by decide)
    · rw [if_neg (by decide)]; exact eN _ _ (by decide)
    · rw [if_pos (by decide)]; rfl
    · rw [if_neg (by decide)]; exact eN _ _ (by decide)
  · obtain ⟨is, q⟩ := k.2 p hp
    exact ⟨is, (q.mv F).to (by rw [mg_N, if_neg (by decide)]; exact eN _ _ (by decide)) rfl rfl (fun _ _ => rfl) (fun _ _ => rfl) (fun _ _ => rfl)⟩
/-- a call that changes no part: its state on both sides -/
def stpO (G : eG) (ad : Nat → Nat → Nat) (h9 : hp) (S' g9 : mS) : Prop := shr S' g9 ∧ AI (mrg S' g9) ∧ ∃ T' X' Y', lnk G ad h9 (mrg S' g9) T' X' Y'
theorem lnk_mrg {G : eG} {ad : Nat → Nat → Nat} {h h9 : hp} {g S' g9 : mS} {T : Nat → tC3} {X Y : Nat → pA} (k : lnk G ad h g T X Y) (F : cfr ad h h9) (e1 : mK S' 16 = mK g 16 ∧ mK S' 15 = mK g 15) (e2 : ∀ j, (j = 8 ∨ j = 12 ∨ j = 13 ∨ j = 14) → ∀ i, mN S' j i = mN g j i) (e3 : ∀ j, (j = 60 ∨ j = 61) → ∀ i, mN g9 j i = mN g j i) (e4 : (∀ i, mB S' 9 i = mB g 9 i) ∧ (∀ i, mB S' 10 i = mB g 10 i) ∧ ∀ i, mI S' 11 i = mI g 11 i) : lnk G ad h9 (mrg S' g9) T X Y := (k.mv F).cong e1 (fun j hj i => by
    rw [mg_N]
    split
    · exact e2 j (by omega) i
    · exact e3 j (by omega) i) e4
theorem shr_rf {g : mS} {c : Nat} : shr (uK g 0 c) g := ⟨⟨rfl, rfl⟩, fun _ _ _ => rfl, fun _ => ⟨rfl, rfl⟩⟩
/-- a call that changes nothing but the reference's note of a throw, and scratch rows -/
theorem step_no {G : eG} {ad : Nat → Nat → Nat} {h h9 : hp} {g S' g9 : mS} {T : Nat → tC3} {X Y : Nat → pA} (A : AI g) (k : lnk G ad h g T X Y) (F : cfr ad h h9) (eK : ∀ j, j ≠ 0 → mK S' j = mK g j) (eN : ∀ j i, j ≠ 22 → mN S' j i = mN g j i) (eB : ∀ j i, mB S' j i = mB g j i) (eI : ∀ j i, j ≠ 19 → mI S' j i = mI g j i) (cK : ∀ j, j ≠ 41 → mK g9 j = mK g j) (cN : ∀ j i, j ≠ 50 → j ≠ 52 → mN g9 j i = mN g j i) (cB : ∀ j i, j ≠ 30 → j ≠ 31 → mB g9 j i = mB g j i) (W : wInv g9) : stpO G ad h9 S' g9 := by
  have I' : mInv S' := by
    obtain ⟨a1, a2, a3, a4, a5, a6, a7, a8, a9, a10, a11, a12, a13, a14, a15, a16⟩ := A.1
    have hT : mTests S' = mTests g := by
      unfold mTests; rw [eK 16 (by decide)]; exact sumTo_congr (fun j _ => eN _ _ (by decide))
    exact ⟨fun s hs => by rw [eN _ _ (by decide)]; exact a1 s hs, fun i hi => by rw [eN _ _ (by decide)]; exact a2 i hi, fun i hi => by rw [eN _ _ (by decide)]; exact a3 i hi, fun i hi => by rw [eN _ _ (by decide)]; exact a4 i hi, fun i hi => by rw [eN _ _ (by decide)]; exact a5 i hi, fun i hi => by rw [eN _ _ (by decide)]; exact a6 i hi, fun i hi => by rw [eN _ _ (by decide)]; exact a7 i hi, fun i hi => by rw [eN _ _ (by decide)]; exact a8 i hi, fun i hi => by rw [eN _ _ (by decide)]; exact a9 i hi, by rw [eK _ (by decide)]; exact a10, by rw [eK _ (by decide)]; exact a11, by rw [hT]; exact a12, fun r hr => by rw [eI _ _ (by decide)]; exact a13 r hr, fun i hi => by rw [eN _ _ (by decide)]; exact a14 i hi, fun r s hr hs he kk hk z hz hb => by
      rw [eI _ _ (by decide)] at he
      rw [eN _ _ (by decide)] at hb ⊢
      exact a15 r s hr hs he kk hk z hz hb, fun p hp => by
      rw [eK _ (by decide), eK _ (by decide)] at hp
      obtain ⟨b1, b2, b3⟩ := a16 p hp
      rw [eN _ _ (by decide), eB]
      exact ⟨b1, fun w hw hb => b2 w hw (by rw [← eB]; exact hb), fun hb => ⟨(b3 hb).1, fun w hw => by rw [eB]; exact (b3 hb).2 w hw⟩⟩⟩
  obtain ⟨_, J, P, Q, _, N⟩ := A
  refine ⟨⟨⟨by rw [eK _ (by decide), cK _ (by decide)], by rw [eK _ (by decide), cK _ (by decide)]⟩, fun j hj i => by rw [eN _ _ (by omega), cN _ _ (by omega) (by omega)], fun i => ⟨by rw [eB, cB _ _ (by decide) (by decide)], by rw [eB, cB _ _ (by decide) (by decide)]⟩⟩, ⟨I', fun r hr => ?_, fun i hi => ?_, fun a b ha hb => ?_, W, ?_⟩, T, X, Y, lnk_mrg k F ⟨eK _ (by decide), eK _ (by decide)⟩ (fun j hj i => eN _ _ (by omega)) (fun j hj i => cN _ _ (by omega) (by omega)) ⟨fun i => eB _ _, fun i => eB _ _, fun i => eI _ _ (by decide)⟩⟩
  · have := J r hr
    rw [mg_B, if_neg (by decide), mg_I, if_pos (by decide), mg_N, if_neg (by decide), cB _ _ (by decide) (by decide), eI _ _ (by decide), cN _ _ (by decide) (by decide)]
    exact this
  · rw [mg_N, if_neg (by decide), cN _ _ (by decide) (by decide)]; exact P i hi
  · rw [mg_N, if_neg (by decide), mg_N, if_pos (by decide), mg_N, if_neg (by decide), cN _ _ (by decide) (by decide), cN _ _ (by decide) (by decide), eN _ _ (by decide)]; exact Q a b ha hb
  · have e := nPairs_cong (g := g) (g' := mrg S' g9) (fun i => by rw [mg_N, if_pos (by decide)]; exact eN _ _ (by decide)) 1600
    have e2 : mK (mrg S' g9) 40 = mK g 40 := by rw [mg_K, if_neg (by decide)]; exact cK _ (by decide)
    exact e2.trans (N.trans e.symm)

