theorem ite_le {c : Prop} [Decidable c] {a b m : Nat} (ha : a ≤ m) (hb : b ≤ m) : (if c then a else b) ≤ m := by split <;> assumption
theorem goA_succ {S : mS} {pat way s fr e k pl : Nat} {lab : Nat → Nat} (h : goA S pat way s fr e k = some (pl, lab)) : goA S pat way s fr e (k + 1) = if way / 2 ^ k % 2 = 1 then (if pl = e ∨ tMat S (8 * pat + k) s pl lab = false then none else some (pl + 1, fun z => if mN S 13 (8 * pat + k) / 2 ^ z % 2 = 1 then pl + 1 else lab z)) else some (pl, lab) := by
  unfold goA at h ⊢
  rw [goS, h]
theorem goA_fail {S : mS} {pat way s fr e k m : Nat} (h : goA S pat way s fr e (k + 1) = none) (hk : k < m) : goA S pat way s fr e m = none := goS_fail h hk
theorem goI_none {S : mS} {pat way s fr e k : Nat} (h : goA S pat way s fr e (k + 1) = none) (hk : k < mN S 8 pat) : goI S pat way s fr e = -1 := by
  unfold goI; rw [goA_fail h hk]
theorem goI_some {S : mS} {pat way s fr e pl : Nat} {lab : Nat → Nat} (h : goA S pat way s fr e (mN S 8 pat) = some (pl, lab)) : goI S pat way s fr e = nI (pl - fr) := by
  unfold goI; rw [h]
theorem goS_le {M : Nat → Nat → (Nat → Nat) → Bool} {st : Nat → Nat} {way fr e : Nat} : ∀ {k pl : Nat} {lab : Nat → Nat}, goS M st way fr e k = some (pl, lab) → fr ≤ pl ∧ pl ≤ fr + k
  | 0, pl, lab, h => by
    rw [goS] at h
    cases h
    exact ⟨Nat.le_refl _, Nat.le_refl _⟩
  | k + 1, pl, lab, h => by
    rw [goS] at h
    split at h
    · cases h
    · rename_i pl' lab' h'
      have := goS_le h'
      split at h
      · split at h
        · cases h
        · cases h; omega
      · cases h; omega
theorem goN_le {S : mS} {pat way s fr e : Nat} : goN S pat way s fr e ≤ mN S 8 pat := by
  unfold goN
  split
  · omega
  · rename_i pl lab h
    have := goS_le h
    omega
theorem goI_pos {S : mS} {pat way s fr e : Nat} (hn : mN S 8 pat ≤ 8) (h : ¬ goI S pat way s fr e ≤ 0) : goI S pat way s fr e = nI (goN S pat way s fr e) ∧ 0 < goN S pat way s fr e := by
  have h1 := goN_le (S := S) (pat := pat) (way := way) (s := s) (fr := fr) (e := e)
  have h2 : goI S pat way s fr e = nI (goN S pat way s fr e) := by
    revert h
    unfold goI goN
    split
    · intro h; exact absurd (by decide) h
    · intro _; rfl
  refine ⟨h2, ?_⟩
  rw [h2] at h
  rcases Nat.eq_zero_or_pos (goN S pat way s fr e) with q | q
  · rw [q] at h; exact absurd (by decide) h
  · exact q
theorem goI_npos {S : mS} {pat way s fr e : Nat} (hn : mN S 8 pat ≤ 8) (h : goI S pat way s fr e ≤ 0) : goN S pat way s fr e = 0 := by
  have h1 := goN_le (S := S) (pat := pat) (way := way) (s := s) (fr := fr) (e := e)
  revert h h1
  unfold goI goN
  split
  · intro _ _; rfl
  · rename_i pl lab _
    intro h h1
    have h1' : pl - fr ≤ mN S 8 pat := h1
    have h2 := (nI_leI (a := pl - fr) (b := 0) (by omega) (by decide)).mp h
    exact Nat.le_zero.mp h2
def gI (S : mS) (pat s p e w : Nat) : Int32 := if mB S 10 (256 * pat + w) = true then goI S pat w s p e else -1
theorem mLoW_succ (S : mS) (pat s p bd : Nat) (L : Bool) (w : Nat) : mLoW S pat s p bd L (w + 1) = if w ≠ 0 ∧ mB S 10 (256 * pat + w) = true ∧ 0 < goN S pat w s p (eOf S s p bd) ∧ (mLoW S pat s p bd L w = 0 ∨ (if L = true then mLoW S pat s p bd L w < goN S pat w s p (eOf S s p bd) else goN S pat w s p (eOf S s p bd) < mLoW S pat s p bd L w)) then goN S pat w s p (eOf S s p bd) else mLoW S pat s p bd L w := rfl
theorem mLoW_le {S : mS} {pat s p bd : Nat} {L : Bool} : ∀ w, mLoW S pat s p bd L w ≤ mN S 8 pat
  | 0 => Nat.zero_le _
  | w + 1 => by
    rw [mLoW_succ]
    exact ite_le goN_le (mLoW_le w)
theorem gI_no {S : mS} {pat s p e w : Nat} (hn : mN S 8 pat ≤ 8) (h : gI S pat s p e w ≤ 0) : ¬ (mB S 10 (256 * pat + w) = true ∧ 0 < goN S pat w s p e) := by
  intro ⟨h1, h2⟩
  rw [gI, if_pos h1] at h
  have := goI_npos hn h
  omega
theorem gI_yes {S : mS} {pat s p e w : Nat} (hn : mN S 8 pat ≤ 8) (h : ¬ gI S pat s p e w ≤ 0) : mB S 10 (256 * pat + w) = true ∧ 0 < goN S pat w s p e ∧ gI S pat s p e w = nI (goN S pat w s p e) := by
  unfold gI at h ⊢
  split at h
  · rename_i c
    obtain ⟨h1, h2⟩ := goI_pos hn h
    exact ⟨c, h2, by rw [if_pos c]; exact h1⟩
  · exact absurd (by decide) h

