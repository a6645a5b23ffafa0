/-! sentences and texts in order; walks within bounds -/
def sInv (g : mS) : Prop := ∀ s, s < 2 → (∀ k, k + 1 < mN g 1 s → mN g 3 (40 * s + k) ≤ mN g 3 (40 * s + (k + 1)) ∧ (mN g 3 (40 * s + k) = mN g 3 (40 * s + (k + 1)) → mN g 4 (40 * s + k) = mN g 4 (40 * s + (k + 1)))) ∧ (mB g 6 s = true → mB g 5 s = true)
theorem sInv_c {g g' : mS} (h : sInv g) (e : ∀ j i, (j = 1 ∨ j = 3 ∨ j = 4) → mN g' j i = mN g j i) (b : ∀ j i, (j = 5 ∨ j = 6) → mB g' j i = mB g j i) : sInv g' := fun s hs => by
  rw [b 6 s (Or.inr rfl), b 5 s (Or.inl rfl), e 1 s (Or.inl rfl)]
  refine ⟨fun k hk => ?_, (h s hs).2⟩
  rw [e 3 _ (by omega), e 3 _ (by omega), e 4 _ (by omega), e 4 _ (by omega)]
  exact (h s hs).1 k hk
theorem sen_mono {g : mS} (S : sInv g) {s : Nat} (hs : s < 2) {k : Nat} : ∀ d, k + d < mN g 1 s → mN g 3 (40 * s + k) ≤ mN g 3 (40 * s + (k + d))
  | 0, _ => Nat.le_refl _
  | d + 1, h => Nat.le_trans (sen_mono S hs d (by omega)) ((S s hs).1 (k + d) (by omega)).1
theorem sen_txt {g : mS} (S : sInv g) {s : Nat} (hs : s < 2) {k : Nat} : ∀ d, k + d < mN g 1 s → mN g 3 (40 * s + k) = mN g 3 (40 * s + (k + d)) → mN g 4 (40 * s + k) = mN g 4 (40 * s + (k + d))
  | 0, _, _ => rfl
  | d + 1, h, e => by
    have h1 := sen_mono S hs d (k := k) (by omega)
    have h2 := (S s hs).1 (k + d) (by omega)
    rw [show k + d + 1 = k + (d + 1) by omega] at h2
    rw [sen_txt S hs d (by omega) (by omega)]
    exact h2.2 (by omega)
theorem grn_mono {g : mS} {s e e' : Nat} (he : e ≤ e') : ∀ {l : List cT} {pl : Nat} {lab : Nat → Nat} {q : Nat × (Nat → Nat)}, grn g s e l pl lab = some q → pl ≤ e → grn g s e' l pl lab = some q
  | [], pl, lab, q, h, _ => h
  | c :: l, pl, lab, q, h, h1 => by
    rw [grn] at h ⊢
    by_cases z : pl = e ∨ cMat g c s pl lab = false
    · rw [if_pos z] at h; cases h
    · rw [if_neg z] at h
      rw [if_neg (fun y => by
        rcases y with y | y
        · exact z (Or.inl (by omega))
        · exact z (Or.inr y))]
      exact grn_mono he h (by omega)
theorem goN_mono {g : mS} (I : mInv g) {p w s fr e e' : Nat} (hs : s < 2) (h1 : fr ≤ e) (h2 : e ≤ e') (h3 : e' ≤ 40) (h : 0 < goN g p w s fr e) : 0 < goN g p w s fr e' := by
  unfold goN at h ⊢
  rw [goA_run I hs h1 (by omega)] at h
  rw [goA_run I hs (by omega) h3]
  cases c : grn g s e (pkL (fun j => tcM g (8 * p + j)) w (mN g 8 p)) fr (fun _ => 0) with
  | none => rw [c] at h; exact absurd h (Nat.lt_irrefl _)
  | some q =>
    rw [c] at h
    rw [grn_mono h2 c h1]
    exact h
theorem mLong_pos {g : mS} {p s k bd : Nat} {L : Bool} : 0 < mLong g p s k bd L ↔ ∃ w, w < 2 ^ mN g 8 p ∧ w ≠ 0 ∧ mB g 10 (256 * p + w) = true ∧ 0 < goN g p w s k (eOf g s k bd) := by
  unfold mLong mLoW
  rcases loS_spec (W := fun w => mB g 10 (256 * p + w)) (f := fun w => goN g p w s k (eOf g s k bd)) (L := L) (2 ^ mN g 8 p) with ⟨a, b⟩ | ⟨a, ⟨w, b1, b2, b3, b4⟩, _⟩
  · rw [a]
    refine ⟨fun z => absurd z (Nat.lt_irrefl _), fun ⟨w, w1, w2, w3, w4⟩ => ?_⟩
    have := b w w1 w2 w3
    omega
  · exact ⟨fun _ => ⟨w, b1, b2, b3, by rw [b4]; exact a⟩, fun _ => a⟩
theorem nWalk_L {g : mS} {p s bd k : Nat} {L L' : Bool} : nWalk g p s bd L k = nWalk g p s bd L' k := sumTo_congr (fun j _ => by
  by_cases c : 0 < mLong g p s j bd L
  · rw [if_pos c, if_pos (mLong_pos.mpr (mLong_pos.mp c))]
  · rw [if_neg c, if_neg (fun z => c (mLong_pos.mpr (mLong_pos.mp z)))])
theorem eOf_b {g : mS} {s k bd : Nat} (hk : k < mN g 1 s) : k < eOf g s k bd ∧ eOf g s k bd ≤ mN g 1 s := by
  have h1 := eGo_ge (S := g) (s := s) (p := k) (bd := bd) 41 (k + 1)
  have h2 := eGo_le (S := g) (s := s) (p := k) (bd := bd) 41 (k + 1) (by omega)
  unfold eOf; omega
theorem nWalk_mono {g : mS} (I : mInv g) {p s bd bd' : Nat} {L : Bool} (hs : s < 2) (h : ∀ k, k < mN g 1 s → eOf g s k bd ≤ eOf g s k bd') : nWalk g p s bd L (mN g 1 s) ≤ nWalk g p s bd' L (mN g 1 s) := sumTo_mono (fun j hj => by
  have h40 := I.1 s hs
  by_cases c : 0 < mLong g p s j bd L
  · obtain ⟨w, w1, w2, w3, w4⟩ := mLong_pos.mp c
    have b1 := eOf_b (bd := bd) hj
    have b2 := eOf_b (bd := bd') hj
    rw [if_pos c, if_pos (mLong_pos.mpr ⟨w, w1, w2, w3, goN_mono I hs (by omega) (h j hj) (by omega) w4⟩)]
    exact Nat.le_refl _
  · rw [if_neg c]; exact Nat.zero_le _)
theorem eGo_mono {g : mS} {s p bd bd' : Nat} : ∀ (f e : Nat), (∀ x, e ≤ x → x < mN g 1 s → inB g s p bd x = true → inB g s p bd' x = true) → eGo g s p bd f e ≤ eGo g s p bd' f e
  | 0, e, _ => Nat.le_refl _
  | f + 1, e, h => by
    rw [eGo]
    by_cases c : e < mN g 1 s ∧ inB g s p bd e = true
    · rw [if_pos c, eGo, if_pos ⟨c.1, h e (Nat.le_refl _) c.1 c.2⟩]
      exact eGo_mono f (e + 1) (fun x hx => h x (by omega))
    · rw [if_neg c]; exact eGo_ge (f + 1) e
theorem eOf_02 {g : mS} {s k bd : Nat} : eOf g s k bd ≤ eOf g s k 0 := eGo_mono _ _ (fun x _ _ _ => rfl)
theorem eOf_21 {g : mS} (S : sInv g) {s k : Nat} (hs : s < 2) : eOf g s k 1 ≤ eOf g s k 2 := eGo_mono _ _ (fun x hx h1 h => by
  unfold inB at h ⊢
  rw [decide_eq_false (by decide), Bool.false_or, if_pos rfl, decide_eq_true_eq] at h
  rw [decide_eq_false (by decide), Bool.false_or, if_neg (by decide), decide_eq_true_eq]
  have := sen_txt S hs (k := k) (x - k) (by omega)
  rw [show k + (x - k) = x by omega] at this
  exact (this h.symm).symm)
theorem nWalk_02 {g : mS} (I : mInv g) {p s bd : Nat} {L : Bool} (hs : s < 2) : nWalk g p s bd L (mN g 1 s) ≤ nWalk g p s 0 L (mN g 1 s) := nWalk_mono I hs (fun _ _ => eOf_02)
theorem nWalk_21 {g : mS} (I : mInv g) (S : sInv g) {p s : Nat} {L : Bool} (hs : s < 2) : nWalk g p s 1 L (mN g 1 s) ≤ nWalk g p s 2 L (mN g 1 s) := nWalk_mono I hs (fun _ _ => eOf_21 S hs)
theorem mLong_eOf {g : mS} (I : mInv g) {p s pl bd : Nat} {L : Bool} (hs : s < 2) (hpl : pl < mN g 1 s) : pl + mLong g p s pl bd L ≤ eOf g s pl bd := by
  have hm := I.1 s hs
  have he := eOf_b (bd := bd) hpl
  unfold mLong mLoW
  rcases loS_spec (W := fun w => mB g 10 (256 * p + w)) (f := fun w => goN g p w s pl (eOf g s pl bd)) (L := L) (2 ^ mN g 8 p) with ⟨a, _⟩ | ⟨_, ⟨w, _, _, _, b⟩, _⟩
  · rw [a]; omega
  · rw [← b]
    show pl + goN g p w s pl (eOf g s pl bd) ≤ eOf g s pl bd
    unfold goN
    split
    · omega
    · rename_i pe lab e
      rw [goA_run I hs (by omega) (by omega)] at e
      have := grn_le e (by omega)
      replace this : pe ≤ eOf g s pl bd := this
      have h2 := grn_len e
      replace h2 : pe = pl + _ := h2
      omega
theorem mLong_sen {g : mS} (I : mInv g) {p s pl x : Nat} {L : Bool} (hs : s < 2) (hpl : pl < mN g 1 s) (h1 : pl ≤ x) (h2 : x < pl + mLong g p s pl 1 L) : mN g 3 (40 * s + x) = mN g 3 (40 * s + pl) := by
  have h := mLong_eOf I (p := p) (bd := 1) (L := L) hs hpl
  have hm := I.1 s hs
  by_cases e : x = pl
  · rw [e]
  · have := ((eGo_spec (g := g) (s := s) (p := pl) (bd := 1) 41 (pl + 1) (by omega)).1 x (by omega) (by
      have z : eOf g s pl 1 = eGo g s pl 1 41 (pl + 1) := rfl
      omega)).2
    unfold inB at this
    rw [decide_eq_false (by decide), Bool.false_or, if_pos rfl, decide_eq_true_eq] at this
    exact this
/-! what a run leaves -/
theorem lenX_8 {g : mS} (I : mInv g) {p s bd k : Nat} {L : Bool} (hp : p < 21) : lenX g p s bd L k ≤ 8 := by
  unfold lenX
  split
  · exact mLong_le ⟨I.1, I.2.1, I.2.2.1, I.2.2.2.1, I.2.2.2.2.1, I.2.2.2.2.2.1, I.2.2.2.2.2.2.1, I.2.2.2.2.2.2.2.1, I.2.2.2.2.2.2.2.2.1, trivial⟩ hp
  · omega
theorem crF_X {g : mS} (I : mInv g) {r p s bd k : Nat} {L : Bool} (hs : s < 2) (hk : k < 40) : crF g r p s bd L (mN g 1 s) (40 * r + k) = bitX (lenX g p s bd L k) := by
  have hm := I.1 s hs
  unfold crF lenX
  by_cases c : k < mN g 1 s
  · rw [if_pos (by omega), if_pos c, show 40 * r + k - 40 * r = k by omega]
  · rw [if_neg (by omega), if_pos (by omega), if_neg c]; rfl
theorem lenX_n {g : mS} (I : mInv g) {p s bd : Nat} {L : Bool} (hs : s < 2) : sumTo (fun k => if 0 < lenX g p s bd L k then 1 else 0) 40 = nWalk g p s bd L (mN g 1 s) := by
  have hm := I.1 s hs
  have h := sumTo_z (f := fun k => if 0 < lenX g p s bd L k then 1 else 0) (t := mN g 1 s) (40 - mN g 1 s) (fun k h1 h2 => by
    show (if 0 < lenX g p s bd L k then 1 else 0) = 0
    unfold lenX; rw [if_neg (show ¬ k < mN g 1 s by omega)]; rfl)
  rw [show mN g 1 s + (40 - mN g 1 s) = 40 by omega] at h
  rw [h]
  exact sumTo_congr (fun k hk => by show (if 0 < lenX g p s bd L k then 1 else 0) = _; unfold lenX; rw [if_pos hk])
theorem lenX_s {g : mS} (I : mInv g) {p s bd : Nat} {L : Bool} (hs : s < 2) : sumTo (fun k => lenX g p s bd L k) 40 = sWalk g p s bd L (mN g 1 s) := by
  have hm := I.1 s hs
  have h := sumTo_z (f := fun k => lenX g p s bd L k) (t := mN g 1 s) (40 - mN g 1 s) (fun k h1 h2 => by
    show lenX g p s bd L k = 0
    unfold lenX; rw [if_neg (show ¬ k < mN g 1 s by omega)])
  rw [show mN g 1 s + (40 - mN g 1 s) = 40 by omega] at h
  rw [h]
  exact sumTo_congr (fun k hk => by show lenX g p s bd L k = _; unfold lenX; rw [if_pos hk])
theorem nWalk_le {g : mS} {p s bd : Nat} {L : Bool} (k : Nat) : nWalk g p s bd L k ≤ k := by
  have := sumTo_le (f := fun j => if 0 < mLong g p s j bd L then 1 else 0) (c := 1) (k := k) (fun j _ => by show (if _ then 1 else 0) ≤ 1; split <;> omega)
  unfold nWalk; omega
