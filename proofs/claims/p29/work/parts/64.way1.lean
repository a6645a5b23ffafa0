/-! what a test says, apart from where it stands -/
abbrev cT : Type := (Nat → Int32) × (Nat → Nat) × Nat × Nat
def tcM (g : mS) (t : Nat) : cT := (fun k => if k < 3 then mI g 11 (3 * t + k) else 0, fun k => if k < 6 then mN g 12 (6 * t + k) else 0, mN g 13 t, mN g 14 t)
def cA (g : mS) (c : cT) (s p k : Nat) : Bool := (decide (c.1 k = -1) || decide (c.1 k = nI (mVal g s p k))) && decide (c.2.1 (2 * k + mVal g s p k / 50) / 2 ^ (mVal g s p k % 50) % 2 = 0)
def cC (g : mS) (c : cT) (s p : Nat) (lab : Nat → Nat) (k z : Nat) : Bool := !decide (c.2.2.2 / 2 ^ (3 * z + k) % 2 = 1) || (!decide (lab z = 0) && decide (mVal g s (lab z - 1) k = mVal g s p k))
def cMat (g : mS) (c : cT) (s p : Nat) (lab : Nat → Nat) : Bool := allTo (fun k => cA g c s p k && allTo (cC g c s p lab k) 3) 3
theorem allTo_iff {f : Nat → Bool} : ∀ {k : Nat}, allTo f k = true ↔ ∀ j, j < k → f j = true
  | 0 => ⟨fun _ j h => absurd h (Nat.not_lt_zero _), fun _ => rfl⟩
  | k + 1 => by
    rw [allTo, Bool.and_eq_true, allTo_iff]
    constructor
    · rintro ⟨a, b⟩ j hj
      by_cases e : j = k
      · subst e; exact b
      · exact a j (by omega)
    · intro h
      exact ⟨fun j hj => h j (by omega), h k (by omega)⟩
theorem allTo_congr {f g : Nat → Bool} : ∀ {k : Nat}, (∀ j, j < k → f j = g j) → allTo f k = allTo g k
  | 0, _ => rfl
  | k + 1, h => by rw [allTo, allTo, allTo_congr (fun j hj => h j (by omega)), h k (by omega)]
theorem tMat_cM {g : mS} {t s p : Nat} {lab : Nat → Nat} (h : ∀ k, k < 3 → mVal g s p k < 100) : tMat g t s p lab = cMat g (tcM g t) s p lab := by
  unfold tMat cMat
  refine allTo_congr (fun k hk => ?_)
  have h1 := h k hk
  show (tA g t s p k && allTo (tC g t s p lab k) 3) = (cA g (tcM g t) s p k && allTo (cC g (tcM g t) s p lab k) 3)
  have e1 : tA g t s p k = cA g (tcM g t) s p k := by
    unfold tA cA
    show _ = ((decide ((if k < 3 then mI g 11 (3 * t + k) else 0) = -1) || decide ((if k < 3 then mI g 11 (3 * t + k) else 0) = nI (mVal g s p k))) && decide ((if 2 * k + mVal g s p k / 50 < 6 then mN g 12 (6 * t + (2 * k + mVal g s p k / 50)) else 0) / 2 ^ (mVal g s p k % 50) % 2 = 0))
    rw [if_pos hk, if_pos (by omega), Nat.add_assoc]
  rw [e1]
  rfl
/-- a label's field in the settings -/
def fdS (t z : Nat) : Nat := t / 2 ^ (z * 6) &&& 63
theorem saX_f {t k : Nat} : saX t k = fdS t (k % 3) := rfl
theorem fdS_mod (t z : Nat) : fdS t z = t / 2 ^ (z * 6) % 64 := by
  unfold fdS
  exact Nat.and_two_pow_sub_one_eq_mod _ 6
theorem fdS_and (a b z : Nat) : fdS (a &&& b) z = fdS a z &&& fdS b z := by
  unfold fdS
  rw [Nat.and_div_two_pow, Nat.and_assoc, Nat.and_assoc]
  congr 1
  rw [← Nat.and_assoc 63, Nat.and_comm 63, Nat.and_assoc, Nat.and_self]
theorem fdS_or (a b z : Nat) : fdS (a ||| b) z = fdS a z ||| fdS b z := by
  unfold fdS
  rw [Nat.or_div_two_pow, Nat.and_or_distrib_right]
theorem fdS_stF {l z : Nat} (hl : l < 3) (hz : z < 3) : fdS (stF l) z = if z = l then 63 else 0 := by
  have h : ∀ l, l < 3 → ∀ z, z < 3 → fdS (stF l) z = if z = l then 63 else 0 := by decide
  exact h l hl z hz
theorem fdS_nst {l z : Nat} (hl : l < 3) (hz : z < 3) : fdS (stF l ^^^ 4294967295) z = if z = l then 0 else 63 := by
  have h : ∀ l, l < 3 → ∀ z, z < 3 → fdS (stF l ^^^ 4294967295) z = if z = l then 0 else 63 := by decide
  exact h l hl z hz
theorem fdS_put {l z p : Nat} (hl : l < 3) (hz : z < 3) (hp : p < 64) : fdS (p * 2 ^ (l * 6)) z = if z = l then p else 0 := by
  have h : ∀ l, l < 3 → ∀ z, z < 3 → ∀ p, p < 64 → fdS (p * 2 ^ (l * 6)) z = if z = l then p else 0 := by decide +kernel
  exact h l hl z hz p hp
theorem and63 {x : Nat} (h : x ≤ 63) : x &&& 63 = x := by
  rw [show (63 : Nat) = 2 ^ 6 - 1 from rfl, Nat.and_two_pow_sub_one_eq_mod]; omega
theorem fdS_63 (t z : Nat) : fdS t z ≤ 63 := Nat.and_le_right
theorem fdS_stW {s l p z : Nat} (hl : l < 3) (hz : z < 3) (hp : p < 63) : fdS (stW s l p) z = if z = l then p + 1 else fdS s z := by
  unfold stW
  rw [fdS_or, fdS_and, fdS_nst hl hz, fdS_put hl hz (by omega)]
  by_cases c : z = l
  · rw [if_pos c, if_pos c, if_pos c, Nat.and_zero, Nat.zero_or]
  · rw [if_neg c, if_neg c, if_neg c, Nat.or_zero, and63 (fdS_63 _ _)]
theorem fdS_sbF {lb s p z : Nat} (hz : z < 3) (hp : p < 63) : ∀ k, k ≤ 3 → fdS (sbF lb s p k) z = if z < k ∧ lb / 2 ^ z % 2 = 1 then p + 1 else fdS s z
  | 0, _ => by rw [sbF, if_neg (by omega)]
  | k + 1, hk => by
    rw [sbF]
    have i := fdS_sbF (lb := lb) (s := s) hz hp k (by omega)
    by_cases c : lb / 2 ^ k % 2 = 1
    · rw [if_pos c, fdS_stW (by omega) hz hp, i]
      by_cases e : z = k
      · rw [if_pos e, e, if_pos ⟨by omega, c⟩]
      · rw [if_neg e]
        by_cases d : z < k ∧ lb / 2 ^ z % 2 = 1
        · rw [if_pos d, if_pos ⟨by omega, d.2⟩]
        · rw [if_neg d, if_neg (by omega)]
    · rw [if_neg c, i]
      by_cases d : z < k ∧ lb / 2 ^ z % 2 = 1
      · rw [if_pos d, if_pos ⟨by omega, d.2⟩]
      · rw [if_neg d, if_neg (fun y => by
          by_cases e : z = k
          · subst e; exact c y.2
          · exact d ⟨by omega, y.2⟩)]
/-- settings are their fields -/
theorem fdS_ext {a b : Nat} (ha : a < 262144) (hb : b < 262144) (h : ∀ z, z < 3 → fdS a z = fdS b z) : a = b := by
  have h0 := h 0 (by decide); have h1 := h 1 (by decide); have h2 := h 2 (by decide)
  rw [fdS_mod, fdS_mod] at h0 h1 h2
  simp only [Nat.reduceMul, Nat.reducePow] at h0 h1 h2
  omega
/-- masks of whole fields -/
def mskF (rs : Nat) : Prop := rs < 262144 ∧ ∀ z, z < 3 → fdS rs z = 0 ∨ fdS rs z = 63
theorem mskF_or {a b : Nat} (ha : mskF a) (hb : mskF b) : mskF (a ||| b) := ⟨or_lt (n := 18) ha.1 hb.1, fun z hz => by
  rw [fdS_or]
  rcases ha.2 z hz with h | h <;> rcases hb.2 z hz with h' | h' <;> rw [h, h'] <;> decide⟩
theorem mskF_0 : mskF 0 := ⟨by decide, fun z _ => Or.inl (by unfold fdS; rw [Nat.zero_div]; rfl)⟩
theorem mskF_st {l : Nat} (hl : l < 3) : mskF (stF l) := ⟨by
  have h : ∀ l, l < 3 → stF l < 262144 := by decide
  exact h l hl, fun z hz => by
  rw [fdS_stF hl hz]; split
  · exact Or.inr rfl
  · exact Or.inl rfl⟩
theorem mskF_rs (s : Nat) : ∀ k, mskF (rsF s k)
  | 0 => mskF_0
  | k + 1 => by
    rw [rsF]; split
    · exact mskF_or (mskF_rs s k) (mskF_st (by omega))
    · exact mskF_rs s k
theorem rsF_has {s : Nat} : ∀ {k j : Nat}, j < k → s / 2 ^ j % 2 = 1 → fdS (rsF s k) (j % 3) = 63
  | 0, _, h, _ => absurd h (Nat.not_lt_zero _)
  | k + 1, j, h, hb => by
    rw [rsF]
    by_cases e : j = k
    · subst e
      rw [if_pos hb, fdS_or, fdS_stF (by omega) (by omega), if_pos rfl]
      rcases (mskF_rs s j).2 (j % 3) (by omega) with z | z <;> rw [z] <;> decide
    · have i := rsF_has (k := k) (j := j) (by omega) hb
      split
      · rw [fdS_or, i]
        rcases (mskF_st (l := k % 3) (by omega)).2 (j % 3) (by omega) with z | z <;> rw [z] <;> decide
      · exact i
theorem msk_or {a b z : Nat} (hb : mskF b) (hz : z < 3) (h : fdS a z = 63) : fdS (a ||| b) z = 63 := by
  rw [fdS_or, h]
  rcases hb.2 z hz with y | y <;> rw [y] <;> decide
theorem msk_or' {a b z : Nat} (ha : mskF a) (hz : z < 3) (h : fdS b z = 63) : fdS (a ||| b) z = 63 := by
  rw [Nat.or_comm]; exact msk_or ha hz h
/-- the class's test and the reference's say the same -/
def tRl (c : tC3) (m : cT) : Prop := c.2.2 = m.2.2.1 ∧ (∀ a, a < 3 → ∀ l, l < 3 → c.2.1 / 2 ^ (a * 3 + l) % 2 = m.2.2.2 / 2 ^ (3 * l + a) % 2) ∧ ∀ a, a < 3 → ∀ v, v < 100 → (c.1 (a * 2 + v / 64) / 2 ^ (v % 64) % 2 = 1 ↔ (m.1 a = -1 ∨ m.1 a = nI v) ∧ m.2.1 (2 * a + v / 50) / 2 ^ (v % 50) % 2 = 0)
theorem mt_eq {g : mS} {c : tC3} {m : cT} {s p t : Nat} {lab : Nat → Nat} (R : tRl c m) (h : ∀ k, k < 3 → mVal g s p k < 100) (hl : ∀ k, k < 9 → c.2.1 / 2 ^ k % 2 = 1 → fdS t (k % 3) = lab (k % 3)) : (allTo (paF g c.1 s p) 3 && allTo (saF g c.2.1 t s p) 9) = cMat g m s p lab := by
  have e1 : ∀ k, k < 3 → paF g c.1 s p k = cA g m s p k := fun k hk => by
    have := R.2.2 k hk (mVal g s p k) (h k hk)
    unfold paF cA
    rw [Bool.eq_iff_iff, decide_eq_true_eq, Bool.and_eq_true, Bool.or_eq_true, decide_eq_true_eq, decide_eq_true_eq, decide_eq_true_eq]
    exact this
  have e2 : ∀ k z, k < 3 → z < 3 → saF g c.2.1 t s p (k * 3 + z) = cC g m s p lab k z := fun k z hk hz => by
    have h1 := R.2.1 k hk z hz
    have h2 := hl (k * 3 + z) (by omega)
    unfold saF cC
    rw [saX_f]
    rw [show (k * 3 + z) % 3 = z by omega] at h2 ⊢
    rw [show (k * 3 + z) / 3 = k by omega, ← h1]
    by_cases q : c.2.1 / 2 ^ (k * 3 + z) % 2 = 1
    · rw [h2 q]
    · rw [decide_eq_false q]; rfl
  rw [Bool.eq_iff_iff, Bool.and_eq_true, allTo_iff, allTo_iff]
  unfold cMat
  rw [allTo_iff]
  constructor
  · rintro ⟨a, b⟩ k hk
    rw [Bool.and_eq_true, allTo_iff]
    exact ⟨by rw [← e1 k hk]; exact a k hk, fun z hz => by rw [← e2 k z hk hz]; exact b _ (by omega)⟩
  · intro a
    refine ⟨fun k hk => ?_, fun k hk => ?_⟩
    · have := a k hk
      rw [Bool.and_eq_true] at this
      rw [e1 k hk]; exact this.1
    · have := a (k / 3) (by omega)
      rw [Bool.and_eq_true, allTo_iff] at this
      have h3 := this.2 (k % 3) (by omega)
      rw [← e2 (k / 3) (k % 3) (by omega) (by omega), show k / 3 * 3 + k % 3 = k by omega] at h3
      exact h3
/-! running a row of tests -/
def grn (g : mS) (s e : Nat) : List cT → Nat → (Nat → Nat) → Option (Nat × (Nat → Nat))
  | [], pl, lab => some (pl, lab)
  | c :: l, pl, lab => if pl = e ∨ cMat g c s pl lab = false then none else grn g s e l (pl + 1) (fun z => if c.2.2.1 / 2 ^ z % 2 = 1 then pl + 1 else lab z)
theorem grn_app {g : mS} {s e : Nat} {m : List cT} : ∀ {l : List cT} {pl : Nat} {lab : Nat → Nat}, grn g s e (l ++ m) pl lab = match grn g s e l pl lab with
    | none => none
    | some q => grn g s e m q.1 q.2
  | [], pl, lab => rfl
  | c :: l, pl, lab => by
    rw [List.cons_append, grn, grn]
    split
    · rfl
    · exact grn_app
theorem grn_len {g : mS} {s e : Nat} : ∀ {l : List cT} {pl : Nat} {lab : Nat → Nat} {q : Nat × (Nat → Nat)}, grn g s e l pl lab = some q → q.1 = pl + l.length
  | [], pl, lab, q, h => by rw [grn] at h; cases h; rfl
  | c :: l, pl, lab, q, h => by
    rw [grn] at h
    split at h
    · cases h
    · rw [grn_len h, List.length_cons]; omega
/-- without an end, and with one -/
theorem grn_end {g : mS} {s e e' : Nat} : ∀ {l : List cT} {pl : Nat} {lab : Nat → Nat}, pl + l.length ≤ e → pl + l.length ≤ e' → grn g s e l pl lab = grn g s e' l pl lab
  | [], pl, lab, _, _ => rfl
  | c :: l, pl, lab, h, h' => by
    rw [List.length_cons] at h h'
    rw [grn, grn, grn_end (l := l) (e := e) (e' := e') (by omega) (by omega)]
    have e1 : (pl = e ∨ cMat g c s pl lab = false) ↔ (pl = e' ∨ cMat g c s pl lab = false) := by
      constructor
      · rintro (z | z)
        · omega
        · exact Or.inr z
      · rintro (z | z)
        · omega
        · exact Or.inr z
    by_cases d : pl = e ∨ cMat g c s pl lab = false
    · rw [if_pos d, if_pos (e1.mp d)]
    · rw [if_neg d, if_neg (fun z => d (e1.mpr z))]
theorem grn_le {g : mS} {s e : Nat} : ∀ {l : List cT} {pl : Nat} {lab : Nat → Nat} {q : Nat × (Nat → Nat)}, grn g s e l pl lab = some q → pl ≤ e → q.1 ≤ e
  | [], pl, lab, q, h, h1 => by rw [grn] at h; cases h; exact h1
  | c :: l, pl, lab, q, h, h1 => by
    rw [grn] at h
    split at h
    · cases h
    · rename_i d
      exact grn_le h (by omega)
theorem grn_lab {g : mS} {s e : Nat} : ∀ {l : List cT} {pl : Nat} {lab : Nat → Nat} {q : Nat × (Nat → Nat)}, grn g s e l pl lab = some q → (∀ z, lab z ≤ pl) → ∀ z, q.2 z ≤ q.1
  | [], pl, lab, q, h, h1 => by rw [grn] at h; cases h; exact h1
  | c :: l, pl, lab, q, h, h1 => by
    rw [grn] at h
    split at h
    · cases h
    · exact grn_lab h (fun z => by
        show (if c.2.2.1 / 2 ^ z % 2 = 1 then pl + 1 else lab z) ≤ pl + 1
        have := h1 z
        split <;> omega)
/-- the tests of a way -/
def pkL (c : Nat → cT) (w : Nat) : Nat → List cT
  | 0 => []
  | k + 1 => if w / 2 ^ k % 2 = 1 then pkL c w k ++ [c k] else pkL c w k
theorem pkL_congr {c d : Nat → cT} {w v : Nat} : ∀ {k : Nat}, (∀ j, j < k → c j = d j ∧ w / 2 ^ j % 2 = v / 2 ^ j % 2) → pkL c w k = pkL d v k
  | 0, _ => rfl
  | k + 1, h => by rw [pkL, pkL, pkL_congr (fun j hj => h j (by omega)), (h k (by omega)).2, (h k (by omega)).1]
theorem pkL_zero {c : Nat → cT} {w t : Nat} : ∀ {k : Nat}, (∀ j, t ≤ j → j < t + k → w / 2 ^ j % 2 = 0) → pkL c w (t + k) = pkL c w t
  | 0, _ => rfl
  | k + 1, h => by rw [← Nat.add_assoc, pkL, if_neg (by rw [h _ (by omega) (by omega)]; decide), pkL_zero (fun j a b => h j a (by omega))]
/-- the reference's way, by its tests -/
theorem goA_run {g : mS} (I : mInv g) {pat way s fr e : Nat} (hs : s < 2) (hfr : fr ≤ e) (he : e ≤ 40) : ∀ k, goA g pat way s fr e k = grn g s e (pkL (fun j => tcM g (8 * pat + j)) way k) fr (fun _ => 0)
  | 0 => rfl
  | k + 1 => by
    have i := goA_run I (pat := pat) (way := way) hs hfr he k
    rw [pkL]
    cases q : goA g pat way s fr e k with
    | none =>
      have : goA g pat way s fr e (k + 1) = none := goS_mono q 1
      rw [this]
      rw [q] at i
      split
      · rw [grn_app, ← i]
      · exact i
    | some r =>
      obtain ⟨pl, lab⟩ := r
      rw [goA_succ q]
      rw [q] at i
      by_cases b : way / 2 ^ k % 2 = 1
      · rw [if_pos b, if_pos b, grn_app, ← i]
        show _ = if pl = e ∨ cMat g (tcM g (8 * pat + k)) s pl lab = false then none else some (pl + 1, fun z => if (tcM g (8 * pat + k)).2.2.1 / 2 ^ z % 2 = 1 then pl + 1 else lab z)
        have h1 := grn_le i.symm hfr
        by_cases d : pl = e
        · rw [if_pos (Or.inl d), if_pos (Or.inl d)]
        · have h2 : ∀ k, k < 3 → mVal g s pl k < 100 := fun k hk => I.2.1 _ (by
            replace h1 : pl ≤ e := h1
            omega)
          rw [tMat_cM h2]
          rfl
      · rw [if_neg b, if_neg b]; exact i

