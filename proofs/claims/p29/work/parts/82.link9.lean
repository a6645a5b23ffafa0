/-! the calls on results: a step on both sides -/
/-- where only row 21, the results' sides and flags are changed -/
theorem step_res {G : eG} {ad : Nat → Nat → Nat} {h h9 : hp} {g S' g9 : mS} {T : Nat → tC3} {X Y : Nat → pA} (A : AI g) (k : lnk G ad h g T X Y) (F : cfr ad h h9) (h14 : ∀ i, i < 320 → mN S' 21 i < 512 ∧ mN S' 21 i % 2 = 0) (h15 : ∀ r s, r < 8 → s < 2 → mI S' 20 r = nI s → ∀ k, k < 40 → ∀ z, z < 9 → mN S' 21 (40 * r + k) / 2 ^ z % 2 = 1 → k + z ≤ mN g 1 s) (h13 : ∀ r, r < 8 → mI S' 20 r = -1 ∨ mI S' 20 r = nI 0 ∨ mI S' 20 r = nI 1) (hJ : ∀ r, r < 8 → mB g9 32 r = !decide (mI S' 20 r = -1) ∧ (mI S' 20 r ≠ -1 → mI S' 20 r = nI (mN g9 54 r) ∧ mN g9 54 r < 2)) (e21 : ∀ i, mN S' 21 i = mN g9 21 i) (eK : ∀ j, j ≠ 0 → mK S' j = mK g j) (eN : ∀ j i, j ≠ 21 → mN S' j i = mN g j i) (eB : ∀ j i, mB S' j i = mB g j i) (eI : ∀ j i, j ≠ 19 → j ≠ 20 → mI S' j i = mI g j i) (cK : ∀ j, j ≠ 0 → j ≠ 41 → mK g9 j = mK g j) (cN : ∀ j i, j ≠ 50 → j ≠ 54 → j ≠ 21 → mN g9 j i = mN g j i) (cB : ∀ j i, j ≠ 30 → j ≠ 31 → j ≠ 32 → mB g9 j i = mB g j i) (W : wInv g9) : stpO G ad h9 S' g9 := by
  have I' : mInv S' := by
    obtain ⟨a1, a2, a3, a4, a5, a6, a7, a8, a9, a10, a11, a12, a13, a14, a15, a16⟩ := A.1
    have hT : mTests S' = mTests g := by
      unfold mTests; rw [eK 16 (by decide)]; exact sumTo_congr (fun j _ => eN _ _ (by decide))
    exact ⟨fun s hs => by rw [eN _ _ (by decide)]; exact a1 s hs, fun i hi => by rw [eN _ _ (by decide)]; exact a2 i hi, fun i hi => by rw [eN _ _ (by decide)]; exact a3 i hi, fun i hi => by rw [eN _ _ (by decide)]; exact a4 i hi, fun i hi => by rw [eN _ _ (by decide)]; exact a5 i hi, fun i hi => by rw [eN _ _ (by decide)]; exact a6 i hi, fun i hi => by rw [eN _ _ (by decide)]; exact a7 i hi, fun i hi => by rw [eN _ _ (by decide)]; exact a8 i hi, fun i hi => by rw [eN _ _ (by decide)]; exact a9 i hi, by rw [eK _ (by decide)]; exact a10, by rw [eK _ (by decide)]; exact a11, by rw [hT]; exact a12, h13, h14, fun r s hr hs he kk hk z hz hb => by
      rw [eN _ _ (by decide)]; exact h15 r s hr hs he kk hk z hz hb, fun p hp => by
      rw [eK _ (by decide), eK _ (by decide)] at hp
      obtain ⟨b1, b2, b3⟩ := a16 p hp
      rw [eN _ _ (by decide), eB]
      exact ⟨b1, fun w hw hb => b2 w hw (by rw [← eB]; exact hb), fun hb => ⟨(b3 hb).1, fun w hw => by rw [eB]; exact (b3 hb).2 w hw⟩⟩⟩
  obtain ⟨_, J, P, Q, _, N⟩ := A
  refine ⟨⟨⟨by rw [eK _ (by decide), cK _ (by decide) (by decide)], by rw [eK _ (by decide), cK _ (by decide) (by decide)]⟩, fun j hj i => by
      by_cases z : j = 21
      · rw [z]; exact e21 i
      · rw [eN _ _ z, cN _ _ (by omega) (by omega) z], fun i => ⟨by rw [eB, cB _ _ (by decide) (by decide) (by decide)], by rw [eB, cB _ _ (by decide) (by decide) (by decide)]⟩⟩, ⟨I', fun r hr => ?_, fun i hi => ?_, fun a b ha hb => ?_, W, ?_⟩, T, X, Y, lnk_mrg k F ⟨eK _ (by decide), eK _ (by decide)⟩ (fun j hj i => eN _ _ (by omega)) (fun j hj i => cN _ _ (by omega) (by omega) (by omega)) ⟨fun i => eB _ _, fun i => eB _ _, fun i => eI _ _ (by decide) (by decide)⟩⟩
  · rw [mg_B, if_neg (by decide), mg_I, if_pos (by decide), mg_N, if_neg (by decide)]; exact hJ r hr
  · rw [mg_N, if_neg (by decide), cN _ _ (by decide) (by decide) (by decide)]; exact P i hi
  · rw [mg_N, if_neg (by decide), mg_N, if_pos (by decide), mg_N, if_neg (by decide), cN _ _ (by decide) (by decide) (by decide), cN _ _ (by decide) (by decide) (by decide), eN _ _ (by decide)]; exact Q a b ha hb
  · have e := nPairs_cong (g := g) (g' := mrg S' g9) (fun i => by rw [mg_N, if_pos (by decide)]; exact eN _ _ (by decide)) 1600
    have e2 : mK (mrg S' g9) 40 = mK g 40 := by rw [mg_K, if_neg (by decide)]; exact cK _ (by decide) (by decide)
    exact e2.trans (N.trans e.symm)
theorem wInv_wst {g : mS} {f : Nat → Nat} {k : Nat} {b : Bool} (h : ∀ z, z < 140 → f z < 4194304) : wInv (wst g f k b) := ⟨rfl, h⟩
theorem wst_rd {g : mS} {f : Nat → Nat} {k : Nat} {b : Bool} : (∀ j, j ≠ 41 → mK (wst g f k b) j = mK g j) ∧ (∀ j i, j ≠ 50 → mN (wst g f k b) j i = mN g j i) ∧ (∀ j i, j ≠ 30 → j ≠ 31 → mB (wst g f k b) j i = mB g j i) ∧ ∀ j i, mI (wst g f k b) j i = mI g j i := by
  refine ⟨fun j hj => ?_, fun j i hj => ?_, fun j i h1 h2 => ?_, fun _ _ => rfl⟩
  · show (if j = 41 then k else mK g j) = _
    rw [if_neg hj]
  · show mN (sN g 50 f) j i = _
    rw [mN_sN, if_neg hj]
  · show (if j = 31 ∧ i = 0 then b else if j = 30 ∧ i = 0 then b else mB g j i) = _
    rw [if_neg (fun q => h2 q.1), if_neg (fun q => h1 q.1)]
theorem cr_ru {g : mS} {r p s bd i : Nat} {L : Bool} (hm : mN g 1 s ≤ 40) : crF g r p s bd L (mN g 1 s) i = ruF g r p s bd L 40 i := by
  unfold crF ruF lenX
  by_cases c : 40 * r ≤ i ∧ i < 40 * r + mN g 1 s
  · rw [if_pos c, if_pos (by omega), if_pos (by omega)]
  · rw [if_neg c]
    by_cases d : 40 * r ≤ i ∧ i < 40 * r + 40
    · rw [if_pos d, if_pos d, if_neg (by omega)]; rfl
    · rw [if_neg d, if_neg d]
theorem step_run {G : eG} {ad : Nat → Nat → Nat} {h h9 : hp} {g : mS} {T : Nat → tC3} {X Y : Nat → pA} {r pat side bd : Int32} {L : Bool} {f : Nat → Nat} {kq : Nat} {bq : Bool} {f9 : Nat → Int32} (A : AI g) (k : lnk G ad h g T X Y) (F : cfr ad h h9) (c0 : cRun g r pat side bd = 0) (hq : ∀ z, z < 140 → f z < 4194304) : stpO G ad h9 (sI (tRun g r pat side bd L) 19 f9) (wst (crS g (tn r) (tn pat) (tn side) (tn bd) L (mN g 1 (tn side))) f kq bq) ∧ rRun g r pat side bd L = mSize (crS g (tn r) (tn pat) (tn side) (tn bd) L (mN g 1 (tn side))) (tn r) := by
  have I := A.1
  obtain ⟨-, s1, -, s2, -, s3, -, s4⟩ := cRun_0 I c0
  have h15 := pats_le I
  have hm := I.1 (tn side) s2
  have IC := cr_I I (r := tn r) (p := tn pat) (s := tn side) (bd := tn bd) (k := mN g 1 (tn side)) (L := L) s3 (by omega) s2 (Nat.le_refl _)
  have eS : tRun g r pat side bd L = ruS g (tn r) (tn pat) (tn side) (tn bd) L 40 := by rw [tRun, if_pos c0]
  have e21 : ∀ i, mN (sI (tRun g r pat side bd L) 19 f9) 21 i = crF g (tn r) (tn pat) (tn side) (tn bd) L (mN g 1 (tn side)) i := fun i => by
    rw [eS, cr_ru hm]; rfl
  have e20 : ∀ r', mI (sI (tRun g r pat side bd L) 19 f9) 20 r' = mI (crS g (tn r) (tn pat) (tn side) (tn bd) L (mN g 1 (tn side))) 20 r' := fun r' => by rw [eS]; rfl
  obtain ⟨w1, w2, w3, _⟩ := wst_rd (g := crS g (tn r) (tn pat) (tn side) (tn bd) L (mN g 1 (tn side))) (f := f) (k := kq) (b := bq)
  have cN : ∀ j i, j ≠ 54 → j ≠ 21 → mN (crS g (tn r) (tn pat) (tn side) (tn bd) L (mN g 1 (tn side))) j i = mN g j i := fun j i h1 h2 => by
    unfold crS
    rw [mN_sN, if_neg h2]
    show mN (uN (uK g 0 0) 54 (tn r) (tn side)) j i = _
    rw [mN_uN, if_neg (fun q => h1 q.1)]; rfl
  have c54 : ∀ i, mN (crS g (tn r) (tn pat) (tn side) (tn bd) L (mN g 1 (tn side))) 54 i = if i = tn r then tn side else mN g 54 i := fun i => by
    unfold crS
    rw [mN_sN, if_neg (by decide)]
    show mN (uN (uK g 0 0) 54 (tn r) (tn side)) 54 i = _
    rw [mN_uN]
    by_cases z : i = tn r
    · rw [if_pos ⟨rfl, z⟩, if_pos z]
    · rw [if_neg (fun q => z q.2), if_neg z]; rfl
  have c32 : ∀ j i, mB (crS g (tn r) (tn pat) (tn side) (tn bd) L (mN g 1 (tn side))) j i = if j = 32 ∧ i = tn r then true else mB g j i := fun j i => rfl
  refine ⟨step_res A k F (fun i hi => by rw [e21]; exact IC.2.2.2.2.2.2.2.2.2.2.2.2.2.1 i hi) (fun r' s' hr' hs' he k' hk' z hz hb => ?_) (fun r' hr' => by rw [e20]; exact IC.2.2.2.2.2.2.2.2.2.2.2.2.1 r' hr') (fun r' hr' => ?_) (fun i => by rw [e21, w2 _ _ (by decide)]; rfl) (fun j hj => by rw [eS]; show (if j = 0 then 0 else mK g j) = _; rw [if_neg hj]) (fun j i hj => by rw [eS]; show mN (sN (uI (uK g 0 0) 20 (tn r) (nI (tn side))) 21 _) j i = _; rw [mN_sN, if_neg hj]; rfl) (fun j i => by rw [eS]; rfl) (fun j i h1 h2 => by rw [eS, mI_sI, if_neg h1]; show mI (uI (uK g 0 0) 20 (tn r) (nI (tn side))) j i = _; rw [mI_uI, if_neg (fun q => h2 q.1)]; rfl) (fun j h1 h2 => by rw [w1 _ h2]; show (if j = 0 then 0 else mK g j) = _; rw [if_neg h1]) (fun j i h1 h2 h3 => by rw [w2 _ _ h1, cN _ _ h2 h3]) (fun j i h1 h2 h3 => by rw [w3 _ _ h1 h2, c32, if_neg (fun q => h3 q.1)]) (wInv_wst hq), ?_⟩
  · rw [e20] at he
    rw [e21] at hb
    have := IC.2.2.2.2.2.2.2.2.2.2.2.2.2.2.1 r' s' hr' hs' he k' hk' z hz hb
    rw [cN _ _ (by decide) (by decide)] at this; exact this
  · rw [e20, cr_20, w3 _ _ (by decide) (by decide), w2 _ _ (by decide), c32, c54]
    have hne : nI (tn side) ≠ -1 := nI_m1 (by omega)
    by_cases z : r' = tn r
    · rw [if_pos ⟨rfl, z⟩, if_pos z, if_pos z, decide_eq_false hne]
      exact ⟨rfl, fun _ => ⟨rfl, s2⟩⟩
    · rw [if_neg (fun q => z q.2), if_neg z, if_neg z]
      exact A.2.1 r' hr'
  · rw [rRun, if_pos c0]
    unfold mSize
    refine sumTo_congr (fun j hj => ?_)
    rw [eS]
    show bits8 (ruF g (tn r) (tn pat) (tn side) (tn bd) L 40 (40 * tn r + j)) = bits8 (crF g (tn r) (tn pat) (tn side) (tn bd) L (mN g 1 (tn side)) (40 * tn r + j))
    rw [cr_ru hm]
/-- where a result's matches are changed, and nothing else -/
theorem step_len {G : eG} {ad : Nat → Nat → Nat} {h h9 : hp} {g S' g9 : mS} {T : Nat → tC3} {X Y : Nat → pA} {Fz : Nat → Nat} (A : AI g) (k : lnk G ad h g T X Y) (F : cfr ad h h9) (hS : ∃ f, S' = sI (sN (uK g 0 0) 21 Fz) 19 f) (h14 : ∀ i, i < 320 → Fz i < 512 ∧ Fz i % 2 = 0) (h15 : ∀ r s, r < 8 → s < 2 → mI g 20 r = nI s → ∀ k, k < 40 → ∀ z, z < 9 → Fz (40 * r + k) / 2 ^ z % 2 = 1 → k + z ≤ mN g 1 s) (e21 : ∀ i, mN g9 21 i = Fz i) (cK : ∀ j, j ≠ 0 → j ≠ 41 → mK g9 j = mK g j) (cN : ∀ j i, j ≠ 50 → j ≠ 21 → mN g9 j i = mN g j i) (cB : ∀ j i, j ≠ 30 → j ≠ 31 → mB g9 j i = mB g j i) (W : wInv g9) : stpO G ad h9 S' g9 := by
  obtain ⟨f, rfl⟩ := hS
  have e : ∀ i, mN (sI (sN (uK g 0 0) 21 Fz) 19 f) 21 i = Fz i := fun i => by show mN (sN (uK g 0 0) 21 Fz) 21 i = _; rw [mN_sN, if_pos rfl]
  exact step_res A k F (fun i hi => by rw [e]; exact h14 i hi) (fun r s hr hs he k' hk z hz hb => by rw [e] at hb; exact h15 r s hr hs he k' hk z hz hb) (fun r hr => A.1.2.2.2.2.2.2.2.2.2.2.2.2.1 r hr) (fun r hr => by rw [cB _ _ (by decide) (by decide), cN _ _ (by decide) (by decide)]; exact A.2.1 r hr) (fun i => by rw [e, e21]) (fun j hj => by show (if j = 0 then 0 else mK g j) = _; rw [if_neg hj]) (fun j i hj => by show mN (sN (uK g 0 0) 21 Fz) j i = _; rw [mN_sN, if_neg hj]; rfl) (fun _ _ => rfl) (fun j i h1 _ => by rw [mI_sI, if_neg h1]; rfl) cK (fun j i h1 _ h3 => cN j i h1 h3) (fun j i h1 h2 _ => cB j i h1 h2) W
theorem sI_19 (S : mS) : S = sI S 19 (fun z => mI S 19 z) := sI_init (fun _ => rfl)
theorem step_join {G : eG} {ad : Nat → Nat → Nat} {h h9 : hp} {g : mS} {T : Nat → tC3} {X Y : Nat → pA} {r o bb : Int32} (A : AI g) (k : lnk G ad h g T X Y) (F : cfr ad h h9) (c0 : cJoin g r o bb = 0) : stpO G ad h9 (tJoin g r o bb) (tJoin g r o bb) := by
  have I := A.1
  have hc : (mIsR g r && mIsR g o) = true ∧ mI g 20 (tn r) = mI g 20 (tn o) := by
    unfold cJoin at c0
    split at c0
    · rename_i c
      split at c0
      · split at c0
        · rename_i d; exact ⟨c, d⟩
        · cases c0
      · cases c0
    · cases c0
  rw [Bool.and_eq_true] at hc
  obtain ⟨-, s1, -⟩ := mIsR_of hc.1.1
  obtain ⟨-, s2, -⟩ := mIsR_of hc.1.2
  have eS : tJoin g r o bb = joS g (tn r) (tn o) (tn bb) 40 := by rw [tJoin, if_pos c0]
  rw [eS]
  have bits : ∀ a b w z, jn a b w / 2 ^ z % 2 = 1 → a / 2 ^ z % 2 = 1 ∨ b / 2 ^ z % 2 = 1 := fun a b w z hb => by
    unfold jn at hb
    split at hb
    · exact bit_or.mp hb
    · split at hb
      · exact Or.inl (bit_and.mp hb).1
      · exact Or.inl (bit_and.mp hb).1
  have W := A.2.2.2.2.1
  refine step_len (Fz := joF g (tn r) (tn o) (tn bb) 40) A k F ⟨_, (sI_19 _)⟩ (fun i hi => ⟨joF_lt I s1 s2 hi, ?_⟩) (fun r' s' hr' hs' he k' hk' z hz hb => ?_) (fun i => by unfold joS; rw [mN_sN, if_pos rfl]) (fun j h1 _ => by unfold joS; show (if j = 0 then 0 else mK g j) = _; rw [if_neg h1]) (fun j i _ h2 => by unfold joS; rw [mN_sN, if_neg h2]; rfl) (fun _ _ _ _ => rfl) ⟨W.1, fun z hz => by unfold joS; rw [mN_sN, if_neg (by decide)]; exact W.2 z hz⟩
  · unfold joF
    split
    · exact jn_ev (I.2.2.2.2.2.2.2.2.2.2.2.2.2.1 i hi).2 (I.2.2.2.2.2.2.2.2.2.2.2.2.2.1 _ (by omega)).2
    · exact (I.2.2.2.2.2.2.2.2.2.2.2.2.2.1 i hi).2
  · have h15 := I.2.2.2.2.2.2.2.2.2.2.2.2.2.2.1
    unfold joF at hb
    split at hb
    · have er : r' = tn r := by omega
      subst er
      rcases bits _ _ _ _ hb with v | v
      · exact h15 _ s' hr' hs' he k' hk' z hz v
      · rw [Nat.add_sub_cancel_left] at v
        exact h15 (tn o) s' s2 hs' (hc.2.symm.trans he) k' hk' z hz v
    · exact h15 r' s' hr' hs' he k' hk' z hz hb
theorem step_thin {G : eG} {ad : Nat → Nat → Nat} {h h9 : hp} {g : mS} {T : Nat → tC3} {X Y : Nat → pA} {v : Int32} (A : AI g) (k : lnk G ad h g T X Y) (F : cfr ad h h9) (c0 : mIsR g v = true) : stpO G ad h9 (tThin g v) (tThin g v) := by
  have I := A.1
  obtain ⟨-, s1, -⟩ := mIsR_of c0
  have eS : tThin g v = thS g (tn v) 40 := by rw [tThin, if_pos c0]
  rw [eS]
  have W := A.2.2.2.2.1
  have hbit : ∀ v j, 0 < hb v j → v / 2 ^ hb v j % 2 = 1 := fun v j => by
    induction j with
    | zero => intro h; rw [hb] at h; omega
    | succ j ih =>
      intro h
      rw [hb] at h ⊢
      split
      · assumption
      · rename_i c; rw [if_neg c] at h; exact ih h
  refine step_len (Fz := thF g (tn v) 40) A k F ⟨_, (sI_19 _)⟩ (fun i hi => ⟨thF_lt I hi, ?_⟩) (fun r' s' hr' hs' he k' hk' z hz hbb => ?_) (fun i => by unfold thS; rw [mN_sN, if_pos rfl]) (fun j h1 _ => by unfold thS; show (if j = 0 then 0 else mK g j) = _; rw [if_neg h1]) (fun j i _ h2 => by unfold thS; rw [mN_sN, if_neg h2]; rfl) (fun _ _ _ _ => rfl) ⟨W.1, fun z hz => by unfold thS; rw [mN_sN, if_neg (by decide)]; exact W.2 z hz⟩
  · by_cases c : 40 * tn v ≤ i ∧ i < 40 * tn v + 40
    · have := (th_hl I s1 (i - 40 * tn v) (by omega)).2
      rw [show 40 * tn v + (i - 40 * tn v) = i by omega] at this
      exact this
    · unfold thF; rw [if_neg c]; exact (I.2.2.2.2.2.2.2.2.2.2.2.2.2.1 i hi).2
  · have h15 := I.2.2.2.2.2.2.2.2.2.2.2.2.2.2.1
    unfold thF at hbb
    split at hbb
    · have er : r' = tn v := by omega
      subst er
      rw [Nat.add_sub_cancel_left] at hbb
      unfold thV at hbb
      split at hbb
      · rename_i c
        have := bit_pow.mp hbb
        rw [← this]
        exact h15 _ s' hr' hs' he k' hk' _ (by omega) (hbit _ _ c.1)
      · rw [Nat.zero_div] at hbb; cases hbb
    · exact h15 r' s' hr' hs' he k' hk' z hz hbb
theorem step_aligned {G : eG} {ad : Nat → Nat → Nat} {h h9 : hp} {g : mS} {T : Nat → tC3} {X Y : Nat → pA} {r pat : Int32} {nn : Bool} {f : Nat → Nat} {kq : Nat} {bq : Bool} {f9 : Nat → Int32} (A : AI g) (k : lnk G ad h g T X Y) (F : cfr ad h h9) (c0 : cAl g r pat = 0) (hq : ∀ z, z < 140 → f z < 4194304) : stpO G ad h9 (sI (tAl g r pat nn) 19 f9) (wst (alS g (tn r) (tn pat) nn 40) f kq bq) := by
  have I := A.1
  obtain ⟨-, s1, -⟩ := cAl_0 I c0
  have eS : tAl g r pat nn = alS g (tn r) (tn pat) nn 40 := by rw [tAl, if_pos c0]
  rw [eS]
  obtain ⟨w1, w2, w3, _⟩ := wst_rd (g := alS g (tn r) (tn pat) nn 40) (f := f) (k := kq) (b := bq)
  refine step_len (Fz := alF g (tn r) (tn pat) nn 40) A k F ⟨f9, rfl⟩ (fun i hi => ⟨alF_lt I s1 hi, ?_⟩) (fun r' s' hr' hs' he k' hk' z hz hbb => ?_) (fun i => by rw [w2 _ _ (by decide)]; unfold alS; rw [mN_sN, if_pos rfl]) (fun j h1 h2 => by rw [w1 _ h2]; unfold alS; show (if j = 0 then 0 else mK g j) = _; rw [if_neg h1]) (fun j i h1 h2 => by rw [w2 _ _ h1]; unfold alS; rw [mN_sN, if_neg h2]; rfl) (fun j i h1 h2 => by rw [w3 _ _ h1 h2]; rfl) (wInv_wst hq)
  · unfold alF
    split
    · unfold alV
      split
      · exact (I.2.2.2.2.2.2.2.2.2.2.2.2.2.1 _ (by omega)).2
      · rfl
    · exact (I.2.2.2.2.2.2.2.2.2.2.2.2.2.1 i hi).2
  · have h15 := I.2.2.2.2.2.2.2.2.2.2.2.2.2.2.1
    unfold alF at hbb
    split at hbb
    · have er : r' = tn r := by omega
      subst er
      rw [Nat.add_sub_cancel_left] at hbb
      unfold alV at hbb
      split at hbb
      · exact h15 _ s' hr' hs' he k' hk' z hz hbb
      · rw [Nat.zero_div] at hbb; cases hbb
    · exact h15 r' s' hr' hs' he k' hk' z hz hbb
theorem step_drop {G : eG} {ad : Nat → Nat → Nat} {h h9 : hp} {g : mS} {T : Nat → tC3} {X Y : Nat → pA} {v : Int32} (A : AI g) (k : lnk G ad h g T X Y) (F : cfr ad h h9) (c0 : mIsR g v = true) : stpO G ad h9 (tDrop g v) (uB g 32 (tn v) false) := by
  have I := A.1
  have W := A.2.2.2.2.1
  have eS : tDrop g v = uI (uK g 0 0) 20 (tn v) (-1) := by rw [tDrop, if_pos c0]
  have e20 : ∀ i, mI (tDrop g v) 20 i = if i = tn v then -1 else mI g 20 i := fun i => by
    rw [eS, mI_uI]
    by_cases z : i = tn v
    · rw [if_pos ⟨rfl, z⟩, if_pos z]
    · rw [if_neg (fun q => z q.2), if_neg z]; rfl
  refine step_res A k F (fun i hi => by rw [eS]; exact I.2.2.2.2.2.2.2.2.2.2.2.2.2.1 i hi) (fun r s hr hs he k' hk' z hz hb => ?_) (fun r hr => ?_) (fun r hr => ?_) (fun i => by rw [eS]; rfl) (fun j hj => by rw [eS]; show (if j = 0 then 0 else mK g j) = _; rw [if_neg hj]) (fun j i _ => by rw [eS]; rfl) (fun j i => by rw [eS]; rfl) (fun j i h1 h2 => by rw [eS, mI_uI, if_neg (fun q => h2 q.1)]; rfl) (fun _ _ _ => rfl) (fun _ _ _ _ _ => rfl) (fun j i _ _ h3 => by rw [mB_uB, if_neg (fun q => h3 q.1)]) ⟨W.1, W.2⟩
  · rw [e20] at he
    have hb' : mN g 21 (40 * r + k') / 2 ^ z % 2 = 1 := by rw [eS] at hb; exact hb
    split at he
    · exact absurd he.symm (nI_m1 (by omega))
    · exact I.2.2.2.2.2.2.2.2.2.2.2.2.2.2.1 r s hr hs he k' hk' z hz hb'
  · rw [e20]
    split
    · exact Or.inl rfl
    · exact I.2.2.2.2.2.2.2.2.2.2.2.2.1 r hr
  · rw [e20, mB_uB]
    by_cases z : r = tn v
    · rw [if_pos ⟨rfl, z⟩, if_pos z, decide_eq_true rfl]
      exact ⟨rfl, fun q => absurd rfl q⟩
    · rw [if_neg (fun q => z q.2), if_neg z]
      exact A.2.1 r hr

