/-! the reference's constructor: d rows are there already -/
def mz : mS := (fun _ => 0, fun _ _ => 0, fun _ _ => false, fun _ _ => 0)
def rf (q : Nat → Nat) (d k : Nat) : Value := if k < d then .ref (q k) else .null
def mfsI (q : Nat → Nat) (d : Nat) : List Value := [.int (nI 0), rf q d 1, rf q d 2, rf q d 3, rf q d 4, rf q d 5, rf q d 6, rf q d 7, rf q d 8, rf q d 9, rf q d 10, rf q d 11, rf q d 12, rf q d 13, rf q d 14, .int (nI 0), .int (nI 0), rf q d 17, rf q d 18, rf q d 19, rf q d 20, rf q d 21, rf q d 22]
def qs (q : Nat → Nat) (k a : Nat) : Nat → Nat := fun z => if z = k then a else q z
def mi (G : eG) (a : Nat) (h0 : hp) (d : Nat) (q : Nat → Nat) (h : hp) : Prop := q 0 = a ∧ h a = some (oC 6 (mfsI q d)) ∧ (∀ j, j < d → mkind j ≠ 0 → h (q j) = some (mcell G mz j)) ∧ (∀ i j, i < d → j < d → (i = 0 ∨ mkind i ≠ 0) → (j = 0 ∨ mkind j ≠ 0) → q i = q j → i = j) ∧ ∀ b e, b ≠ a → h0 b = some e → h b = some e
theorem mi_skip {G : eG} {a d : Nat} {h0 h : hp} {q : Nat → Nat} (m : mi G a h0 d q h) (hd : 0 < d) (hk : mkind d = 0) (e : mfsI q (d + 1) = mfsI q d) : mi G a h0 (d + 1) q h := by
  obtain ⟨m1, m2, m3, m4, m5⟩ := m
  refine ⟨m1, by rw [e]; exact m2, fun j hj hj0 => ?_, fun i j hi hj hi0 hj0 => ?_, m5⟩
  · exact m3 j (by rcases Nat.lt_succ_iff_lt_or_eq.mp hj with z | z; exact z; subst z; exact absurd hk hj0) hj0
  · exact m4 i j (by rcases Nat.lt_succ_iff_lt_or_eq.mp hi with z | z; exact z; subst z; rcases hi0 with y | y; omega; exact absurd hk y) (by rcases Nat.lt_succ_iff_lt_or_eq.mp hj with z | z; exact z; subst z; rcases hj0 with y | y; omega; exact absurd hk y) hi0 hj0
theorem mi_step {G : eG} {a d b : Nat} {h0 h : hp} {q : Nat → Nat} {e : va_E} {fs : List Value} (m : mi G a h0 d q h) (hd : 0 < d) (hk : mkind d ≠ 0) (hb : h b = none) (he : e = mcell G mz d) (hf : fs = mfsI (qs q d b) (d + 1)) : mi G a h0 (d + 1) (qs q d b) (hup (hup h b e) a (oC 6 fs)) := by
  obtain ⟨m1, m2, m3, m4, m5⟩ := m
  have hba : b ≠ a := fun z => by rw [z, m2] at hb; cases hb
  have hq : ∀ j, j < d → qs q d b j = q j := fun j hj => by rw [qs, if_neg (by omega)]
  have hqd : qs q d b d = b := by rw [qs, if_pos rfl]
  have hnb : ∀ j, j < d → (j = 0 ∨ mkind j ≠ 0) → q j ≠ b := fun j hj hj0 z => by
    rcases hj0 with y | y
    · subst y; exact hba (by rw [← z, m1])
    · have := m3 j hj y; rw [z, hb] at this; cases this
  have hna : ∀ j, j < d → mkind j ≠ 0 → q j ≠ a := fun j hj hj0 z => by
    have := m4 j 0 hj hd (Or.inr hj0) (Or.inl rfl) (by rw [z, m1])
    subst this; exact hj0 rfl
  subst he hf
  refine ⟨by rw [hq 0 hd, m1], hup_s, fun j hj hj0 => ?_, fun i j hi hj hi0 hj0 hij => ?_, fun c e hc hce => ?_⟩
  · rcases Nat.lt_succ_iff_lt_or_eq.mp hj with z | z
    · rw [hq j z, hup_n (hna j z hj0), hup_n (hnb j z (Or.inr hj0)), m3 j z hj0]
    · subst z; rw [hqd, hup_n hba, hup_s]
  · rcases Nat.lt_succ_iff_lt_or_eq.mp hi with z | z <;> rcases Nat.lt_succ_iff_lt_or_eq.mp hj with y | y
    · rw [hq i z, hq j y] at hij; exact m4 i j z y hi0 hj0 hij
    · subst y; rw [hq i z, hqd] at hij; exact absurd hij (hnb i z hi0)
    · subst z; rw [hq j y, hqd] at hij; exact absurd hij.symm (hnb j y hj0)
    · omega
  · rw [hup_n hc, hup_n (fun z => by subst z; have := m5 _ e hc hce; rw [hb] at this; cases this), m5 c e hc hce]
theorem mi_mo {G : eG} {a : Nat} {h0 h : hp} {q : Nat → Nat} (m : mi G a h0 23 q h) : mo G q mz h := by
  obtain ⟨m1, m2, m3, m4, m5⟩ := m
  exact ⟨by rw [m1, m2]; rfl, fun k hk hk0 => m3 k (by omega) hk0, fun i j hi hj => m4 i j (by omega) (by omega)⟩
def zj (j : Nat) : mS := sI mz 20 (fun z => if z < j then -1 else 0)
def z0 : mS := zj 8
theorem zj_step (j : Nat) : uI (zj j) 20 j (-1) = zj (j + 1) := mS_ext (fun _ => rfl) (fun _ _ => rfl) (fun _ _ => rfl) (fun k i => by
  show (if k = 20 ∧ i = j then (-1 : Int32) else mI (zj j) k i) = mI (zj (j + 1)) k i
  unfold zj
  rw [mI_sI, mI_sI]
  by_cases e : k = 20
  · simp only [e, if_true, true_and]
    by_cases f : i = j
    · rw [if_pos f, if_pos (by omega)]
    · by_cases g : i < j
      · rw [if_neg f, if_pos g, if_pos (by omega)]
      · rw [if_neg f, if_neg g, if_neg (by omega)]
  · simp only [e, false_and, if_false])
