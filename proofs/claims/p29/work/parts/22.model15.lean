theorem hasB_c {S T : mS} (h : ∀ i, mN S 21 i = mN T 21 i) (r k : Nat) : hasB S r k = hasB T r k := by unfold hasB; rw [h]
theorem vlM_c {S T : mS} (h : (∀ i, mN S 21 i = mN T 21 i) ∧ (∀ i, mN S 2 i = mN T 2 i) ∧ ∀ i, mI S 20 i = mI T 20 i) (r a : Nat) (L : Bool) (k : Nat) : vlM S r a L k = vlM T r a L k := by
  unfold vlM mVal sdR
  rw [h.2.2, h.2.1]
theorem cvM_c {S T : mS} (h : (∀ i, mN S 21 i = mN T 21 i) ∧ (∀ i, mN S 2 i = mN T 2 i) ∧ ∀ i, mI S 20 i = mI T 20 i) (r a : Nat) (L : Bool) (k z : Nat) : cvM S r a L k z = cvM T r a L k z := by
  unfold cvM
  congr 1
  funext j
  rw [hasB_c h.1, vlM_c h]
theorem ndM_c {S T : mS} (h : (∀ i, mN S 21 i = mN T 21 i) ∧ (∀ i, mN S 2 i = mN T 2 i) ∧ ∀ i, mI S 20 i = mI T 20 i) (r a : Nat) (L : Bool) : ∀ k, ndM S r a L k = ndM T r a L k
  | 0 => rfl
  | k + 1 => by rw [ndM, ndM, ndM_c h r a L k, hasB_c h.1, vlM_c h, cvM_c h]
theorem cGA_0 {S : mS} {r a : Int32} {L : Bool} {g : Int32} (h : cGA S r a L g = 0) : r = nI (tn r) ∧ tn r < 8 ∧ mI S 20 (tn r) ≠ -1 ∧ a = nI (tn a) ∧ tn a < 3 ∧ g = nI (tn g) ∧ tn g < 360 := by
  unfold cGA at h
  split at h
  · rename_i c
    split at h
    · rename_i d
      split at h
      · rename_i e
        obtain ⟨e1, e2, e3⟩ := mIsR_of c
        obtain ⟨e4, -, e5⟩ := inR_of d (by decide) (by decide)
        have h1 := ndM_le S (tn r) (tn a) L 360
        obtain ⟨e6, e7⟩ := inI_of (by omega) e
        exact ⟨e1, e2, e3, e4, by omega, e6, by omega⟩
      · omega
    · omega
  · omega

