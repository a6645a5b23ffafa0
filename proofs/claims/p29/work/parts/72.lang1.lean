/-! the languages of chains, either-ors and repeats: the class's parts -/
/-- a part in numbers whose bits are in their places -/
def wfB (y : pA) : Prop := (1 ≤ y.1 ∧ y.1 ≤ 8) ∧ (y.2.1 < 2 ^ y.1 ∧ y.2.2.1 < 2 ^ y.1 ∧ mskF y.2.2.2.1) ∧ (∀ j, j < y.1 → y.2.2.2.2.2.1 j < 2 ^ y.1) ∧ ∀ j, j < y.1 → ∀ i, i ≤ j → y.2.2.2.2.2.1 j / 2 ^ i % 2 = 0
theorem wfB.A {y : pA} (h : wfB y) : wfA y := by
  have e : 2 ^ y.1 ≤ 256 := Nat.pow_le_pow_right (n := 2) (by decide) h.1.2
  exact ⟨h.1, ⟨Nat.lt_of_lt_of_le h.2.1.1 e, Nat.lt_of_lt_of_le h.2.1.2.1 e, h.2.1.2.2.1⟩, fun j hj => Nat.lt_of_lt_of_le (h.2.2.1 j hj) e⟩
/-- behind a first part: how a way goes on -/
def cmb (acc : Bool) (n1 t1 : Nat) : Option Nat → Option Nat
  | none => none
  | some 0 => some t1
  | some (t + 1) => if acc = true then some (n1 + (t + 1)) else none
theorem div_bit {w n k : Nat} : w / 2 ^ n / 2 ^ k % 2 = w / 2 ^ (n + k) % 2 := by rw [Nat.div_div_eq_div_mul, Nat.pow_add]
theorem auG_first {fi fi1 : Nat} {nx nx1 : Nat → Nat} {n1 w : Nat} (h1 : ∀ k, k < n1 → fi / 2 ^ k % 2 = fi1 / 2 ^ k % 2) (h2 : ∀ t, t < n1 → ∀ k, k < n1 → nx t / 2 ^ k % 2 = nx1 t / 2 ^ k % 2) : ∀ k, k ≤ n1 → auG fi nx w k = auG fi1 nx1 w k
  | 0, _ => rfl
  | k + 1, hk => by
    rw [auG, auG, auG_first h1 h2 k (by omega)]
    cases e : auG fi1 nx1 w k with
    | none => rfl
    | some t =>
      have ht := (auG_le e).1
      show (if _ then (if (if t = 0 then fi else nx (t - 1)) / 2 ^ k % 2 = 1 then _ else _) else _) = (if _ then (if (if t = 0 then fi1 else nx1 (t - 1)) / 2 ^ k % 2 = 1 then _ else _) else _)
      have : (if t = 0 then fi else nx (t - 1)) / 2 ^ k % 2 = (if t = 0 then fi1 else nx1 (t - 1)) / 2 ^ k % 2 := by
        by_cases c : t = 0
        · rw [if_pos c, if_pos c]; exact h1 k (by omega)
        · rw [if_neg c, if_neg c]; exact h2 (t - 1) (by omega) k (by omega)
      rw [this]
theorem auG_second {fi f2 : Nat} {nx nx2 : Nat → Nat} {n1 n2 w t1 : Nat} {acc : Bool} (h0 : auG fi nx w n1 = some t1) (h2 : ∀ t, t < n2 → ∀ k, k < n2 → nx (n1 + t) / 2 ^ (n1 + k) % 2 = nx2 t / 2 ^ k % 2) (h3 : ∀ k, k < n2 → ((if t1 = 0 then fi else nx (t1 - 1)) / 2 ^ (n1 + k) % 2 = 1 ↔ acc = true ∧ f2 / 2 ^ k % 2 = 1)) : ∀ k, k ≤ n2 → auG fi nx w (n1 + k) = cmb acc n1 t1 (auG f2 nx2 (w / 2 ^ n1) k)
  | 0, _ => h0
  | k + 1, hk => by
    rw [← Nat.add_assoc, auG, auG_second h0 h2 h3 k (by omega), auG, div_bit]
    cases e : auG f2 nx2 (w / 2 ^ n1) k with
    | none => rfl
    | some t =>
      cases t with
      | zero =>
        show (if w / 2 ^ (n1 + k) % 2 = 1 then (if (if t1 = 0 then fi else nx (t1 - 1)) / 2 ^ (n1 + k) % 2 = 1 then some (n1 + k + 1) else none) else some t1) = cmb acc n1 t1 (if w / 2 ^ (n1 + k) % 2 = 1 then (if (if (0:Nat) = 0 then f2 else nx2 (0 - 1)) / 2 ^ k % 2 = 1 then some (k + 1) else none) else some 0)
        by_cases b : w / 2 ^ (n1 + k) % 2 = 1
        · rw [if_pos b, if_pos b, if_pos (rfl : (0:Nat) = 0)]
          by_cases d : f2 / 2 ^ k % 2 = 1
          · rw [if_pos d]
            show _ = if acc = true then some (n1 + (k + 1)) else none
            by_cases a : acc = true
            · rw [if_pos ((h3 k (by omega)).mpr ⟨a, d⟩), if_pos a]; rfl
            · rw [if_neg (fun z => a ((h3 k (by omega)).mp z).1), if_neg a]
          · rw [if_neg d, if_neg (fun z => d ((h3 k (by omega)).mp z).2)]; rfl
        · rw [if_neg b, if_neg b]; rfl
      | succ t =>
        have ht := (auG_le e).1
        show (match (if acc = true then some (n1 + (t + 1)) else none : Option Nat) with
          | none => none
          | some u => if w / 2 ^ (n1 + k) % 2 = 1 then (if (if u = 0 then fi else nx (u - 1)) / 2 ^ (n1 + k) % 2 = 1 then some (n1 + k + 1) else none) else some u) = cmb acc n1 t1 (if w / 2 ^ (n1 + k) % 2 = 1 then (if (if t + 1 = 0 then f2 else nx2 (t + 1 - 1)) / 2 ^ k % 2 = 1 then some (k + 1) else none) else some (t + 1))
        by_cases a : acc = true
        · rw [if_pos a]
          show (if w / 2 ^ (n1 + k) % 2 = 1 then (if (if n1 + (t + 1) = 0 then fi else nx (n1 + (t + 1) - 1)) / 2 ^ (n1 + k) % 2 = 1 then some (n1 + k + 1) else none) else some (n1 + (t + 1))) = _
          rw [if_neg (show ¬ n1 + (t + 1) = 0 by omega), if_neg (show ¬ t + 1 = 0 by omega), show n1 + (t + 1) - 1 = n1 + t by omega, Nat.add_sub_cancel, h2 t (by omega) k (by omega)]
          by_cases b : w / 2 ^ (n1 + k) % 2 = 1
          · rw [if_pos b, if_pos b]
            by_cases d : nx2 t / 2 ^ k % 2 = 1
            · rw [if_pos d, if_pos d]
              show _ = if acc = true then some (n1 + (k + 1)) else none
              rw [if_pos a]; rfl
            · rw [if_neg d, if_neg d]; rfl
          · rw [if_neg b, if_neg b]
            show _ = if acc = true then some (n1 + (t + 1)) else none
            rw [if_pos a]
        · rw [if_neg a]
          show none = _
          by_cases b : w / 2 ^ (n1 + k) % 2 = 1
          · rw [if_pos b]
            by_cases d : (if t + 1 = 0 then f2 else nx2 (t + 1 - 1)) / 2 ^ k % 2 = 1
            · rw [if_pos d]; show none = if acc = true then some (n1 + (k + 1)) else none; rw [if_neg a]
            · rw [if_neg d]; rfl
          · rw [if_neg b]; show none = if acc = true then some (n1 + (t + 1)) else none; rw [if_neg a]
theorem shl_bit {a n k : Nat} : a * 2 ^ n / 2 ^ k % 2 = if n ≤ k then a / 2 ^ (k - n) % 2 else 0 := by
  split
  · rename_i h
    obtain ⟨d, rfl⟩ : ∃ d, k = n + d := ⟨k - n, by omega⟩
    rw [Nat.add_sub_cancel_left, Nat.pow_add, ← Nat.div_div_eq_div_mul, Nat.mul_div_cancel _ (Nat.two_pow_pos n)]
  · rename_i h
    obtain ⟨d, rfl⟩ : ∃ d, n = k + (d + 1) := ⟨n - k - 1, by omega⟩
    rw [Nat.pow_add, ← Nat.mul_assoc, Nat.mul_right_comm, Nat.mul_div_cancel _ (Nat.two_pow_pos k), Nat.pow_succ, ← Nat.mul_assoc, Nat.mul_mod_left]
theorem bit01 (a k : Nat) : a / 2 ^ k % 2 = 0 ∨ a / 2 ^ k % 2 = 1 := by omega
theorem bit_eq {a b k : Nat} (h : a / 2 ^ k % 2 = 1 ↔ b / 2 ^ k % 2 = 1) : a / 2 ^ k % 2 = b / 2 ^ k % 2 := by
  rcases bit01 a k with x | x <;> rcases bit01 b k with y | y <;> omega
theorem tsN_lo {n1 n2 j : Nat} {x1 x2 : Nat → Nat} (h : j < n1) : tsN n1 n2 x1 x2 j = x1 j := if_pos h
theorem tsN_hi {n1 n2 j : Nat} {x1 x2 : Nat → Nat} (h : j < n2) : tsN n1 n2 x1 x2 (n1 + j) = x2 j * 2 ^ n1 := by
  unfold tsN; rw [if_neg (by omega), if_pos (by omega), Nat.add_sub_cancel_left]
/-- a word of two parts -/
def wTwo (n1 w1 w2 : Nat) : Nat := 2 ^ n1 * w2 + w1
theorem wTwo_of {n1 w1 w2 : Nat} (h : w1 < 2 ^ n1) : wTwo n1 w1 w2 % 2 ^ n1 = w1 ∧ wTwo n1 w1 w2 / 2 ^ n1 = w2 := by
  unfold wTwo
  exact ⟨by rw [Nat.mul_add_mod, Nat.mod_eq_of_lt h], by rw [Nat.mul_add_div (Nat.two_pow_pos n1), Nat.div_eq_of_lt h, Nat.add_zero]⟩
theorem wTwo_lt {n1 n2 w1 w2 : Nat} (h : w1 < 2 ^ n1) (h2 : w2 < 2 ^ n2) : wTwo n1 w1 w2 < 2 ^ (n1 + n2) := by
  unfold wTwo
  rw [Nat.pow_add]
  have : 2 ^ n1 * (w2 + 1) ≤ 2 ^ n1 * 2 ^ n2 := Nat.mul_le_mul_left _ h2
  rw [Nat.mul_succ] at this
  omega
theorem div_lt2 {w n1 n2 : Nat} (h : w < 2 ^ (n1 + n2)) : w / 2 ^ n1 < 2 ^ n2 := by
  rw [Nat.pow_add] at h
  exact Nat.div_lt_of_lt_mul h
def cTwo2 (n1 : Nat) (c1 c2 : Nat → cT) : Nat → cT := fun j => if j < n1 then c1 j else c2 (j - n1)
theorem pkL_two {n1 : Nat} {c1 c2 : Nat → cT} {w : Nat} : ∀ n2, pkL (cTwo2 n1 c1 c2) w (n1 + n2) = pkL c1 (w % 2 ^ n1) n1 ++ pkL c2 (w / 2 ^ n1) n2
  | 0 => by
    rw [show pkL c2 (w / 2 ^ n1) 0 = [] from rfl, List.append_nil, Nat.add_zero]
    exact pkL_congr (fun j hj => ⟨by unfold cTwo2; rw [if_pos hj], (bit_mod hj).symm⟩)
  | n2 + 1 => by
    rw [← Nat.add_assoc, pkL, pkL_two n2, pkL, div_bit, show cTwo2 n1 c1 c2 (n1 + n2) = c2 n2 by unfold cTwo2; rw [if_neg (by omega), Nat.add_sub_cancel_left]]
    split
    · rw [List.append_assoc]
    · rfl
/-- how a first part and a second one are scanned in their chain or either-or -/
theorem au_two {x y z : pA} {w : Nat} {acc : Nat → Bool} (hx : wfB x) (hn : z.1 = x.1 + y.1) (h1 : ∀ k, k < x.1 → z.2.1 / 2 ^ k % 2 = x.2.1 / 2 ^ k % 2) (h2 : ∀ t, t < x.1 → ∀ k, k < x.1 → z.2.2.2.2.2.1 t / 2 ^ k % 2 = x.2.2.2.2.2.1 t / 2 ^ k % 2) (h3 : ∀ t, t < y.1 → ∀ k, k < y.1 → z.2.2.2.2.2.1 (x.1 + t) / 2 ^ (x.1 + k) % 2 = y.2.2.2.2.2.1 t / 2 ^ k % 2) (h4 : ∀ t1, t1 ≤ x.1 → ∀ k, k < y.1 → ((if t1 = 0 then z.2.1 else z.2.2.2.2.2.1 (t1 - 1)) / 2 ^ (x.1 + k) % 2 = 1 ↔ acc t1 = true ∧ y.2.1 / 2 ^ k % 2 = 1)) : auG z.2.1 z.2.2.2.2.2.1 w z.1 = match auG x.2.1 x.2.2.2.2.2.1 (w % 2 ^ x.1) x.1 with
    | none => none
    | some t1 => cmb (acc t1) x.1 t1 (auG y.2.1 y.2.2.2.2.2.1 (w / 2 ^ x.1) y.1) := by
  have e0 := auG_first (w := w) h1 h2 x.1 (Nat.le_refl _)
  rw [auG_congr (fi := x.2.1) (nx := x.2.2.2.2.2.1) (v := w % 2 ^ x.1) (fun j hj => (bit_mod hj).symm)] at e0
  rw [hn]
  cases e : auG x.2.1 x.2.2.2.2.2.1 (w % 2 ^ x.1) x.1 with
  | none =>
    rw [e] at e0
    have : ∀ k, auG z.2.1 z.2.2.2.2.2.1 w (x.1 + k) = none := fun k => by
      induction k with
      | zero => exact e0
      | succ k ih => rw [← Nat.add_assoc, auG, ih]
    exact this y.1
  | some t1 =>
    rw [e] at e0
    exact auG_second e0 h3 (h4 t1 (auG_le e).1) y.1 (Nat.le_refl _)
theorem auA_def {y : pA} {w : Nat} : auA y w = match auG y.2.1 y.2.2.2.2.2.1 w y.1 with
    | none => false
    | some 0 => y.2.2.2.2.1
    | some (t + 1) => decide (y.2.2.1 / 2 ^ t % 2 = 1) := rfl
theorem wf_hi {a n k : Nat} (h : a < 2 ^ n) : a / 2 ^ (n + k) % 2 = 0 := bit_lt h (Nat.le_add_right _ _)
theorem auA_chain {x y : pA} (hx : wfB x) (hy : wfB y) {w : Nat} : auA (chA x y) w = (auA x (w % 2 ^ x.1) && auA y (w / 2 ^ x.1)) := by
  have h := au_two (z := chA x y) (y := y) (w := w) (acc := fun t => if t = 0 then x.2.2.2.2.1 else decide (x.2.2.1 / 2 ^ (t - 1) % 2 = 1)) hx rfl
    (fun k hk => by
      refine bit_eq ?_
      show (x.2.1 ||| (if x.2.2.2.2.1 = true then y.2.1 * 2 ^ x.1 else 0)) / 2 ^ k % 2 = 1 ↔ _
      rw [bit_or]
      constructor
      · rintro (a | a)
        · exact a
        · split at a
          · rw [shl_bit, if_neg (by omega)] at a; cases a
          · rw [Nat.zero_div] at a; cases a
      · exact Or.inl)
    (fun t ht k hk => by
      refine bit_eq ?_
      show chX x.1 y.1 x.2.2.2.2.2.1 y.2.2.2.2.2.1 x.2.2.1 y.2.1 x.1 t / 2 ^ k % 2 = 1 ↔ _
      unfold chX
      rw [tsN_lo ht]
      split
      · rw [bit_or, shl_bit, if_neg (by omega)]
        constructor
        · rintro (a | a)
          · exact a
          · cases a
        · exact Or.inl
      · exact Iff.rfl)
    (fun t ht k hk => by
      show chX x.1 y.1 x.2.2.2.2.2.1 y.2.2.2.2.2.1 x.2.2.1 y.2.1 x.1 (x.1 + t) / 2 ^ (x.1 + k) % 2 = _
      unfold chX
      rw [if_neg (by omega), tsN_hi ht, shl_bit, if_pos (by omega), Nat.add_sub_cancel_left])
    (fun t1 ht1 k hk => by
      by_cases c : t1 = 0
      · rw [if_pos c, if_pos c]
        show (x.2.1 ||| (if x.2.2.2.2.1 = true then y.2.1 * 2 ^ x.1 else 0)) / 2 ^ (x.1 + k) % 2 = 1 ↔ _
        rw [bit_or, wf_hi hx.2.1.1]
        by_cases d : x.2.2.2.2.1 = true
        · rw [if_pos d, shl_bit, if_pos (by omega), Nat.add_sub_cancel_left]
          constructor
          · rintro (a | a)
            · cases a
            · exact ⟨d, a⟩
          · rintro ⟨_, a⟩; exact Or.inr a
        · rw [if_neg d, Nat.zero_div]
          constructor
          · rintro (a | a) <;> cases a
          · rintro ⟨a, _⟩; exact absurd a d
      · rw [if_neg c, if_neg c]
        show chX x.1 y.1 x.2.2.2.2.2.1 y.2.2.2.2.2.1 x.2.2.1 y.2.1 x.1 (t1 - 1) / 2 ^ (x.1 + k) % 2 = 1 ↔ _
        unfold chX
        rw [tsN_lo (by omega), decide_eq_true_eq]
        by_cases d : x.2.2.1 / 2 ^ (t1 - 1) % 2 = 1
        · rw [if_pos ⟨by omega, d⟩, bit_or, wf_hi (hx.2.2.1 _ (by omega)), shl_bit, if_pos (by omega), Nat.add_sub_cancel_left]
          constructor
          · rintro (a | a)
            · cases a
            · exact ⟨d, a⟩
          · rintro ⟨_, a⟩; exact Or.inr a
        · rw [if_neg (fun z => d z.2), wf_hi (hx.2.2.1 _ (by omega))]
          constructor
          · intro a; cases a
          · rintro ⟨a, _⟩; exact absurd a d)
  have la : ∀ t, t < x.1 → ((chA x y).2.2.1 / 2 ^ t % 2 = 1 ↔ x.2.2.1 / 2 ^ t % 2 = 1 ∧ y.2.2.2.2.1 = true) := fun t ht => by
    show (y.2.2.1 * 2 ^ x.1 ||| (if y.2.2.2.2.1 = true then x.2.2.1 else 0)) / 2 ^ t % 2 = 1 ↔ _
    rw [bit_or, shl_bit, if_neg (by omega)]
    by_cases d : y.2.2.2.2.1 = true
    · rw [if_pos d]
      constructor
      · rintro (a | a)
        · cases a
        · exact ⟨a, d⟩
      · rintro ⟨a, _⟩; exact Or.inr a
    · rw [if_neg d, Nat.zero_div]
      constructor
      · rintro (a | a) <;> cases a
      · rintro ⟨_, a⟩; exact absurd a d
  have lb : ∀ t, (chA x y).2.2.1 / 2 ^ (x.1 + t) % 2 = 1 ↔ y.2.2.1 / 2 ^ t % 2 = 1 := fun t => by
    show (y.2.2.1 * 2 ^ x.1 ||| (if y.2.2.2.2.1 = true then x.2.2.1 else 0)) / 2 ^ (x.1 + t) % 2 = 1 ↔ _
    rw [bit_or, shl_bit, if_pos (by omega), Nat.add_sub_cancel_left]
    constructor
    · rintro (a | a)
      · exact a
      · split at a
        · rw [wf_hi hx.2.1.2.1] at a; cases a
        · rw [Nat.zero_div] at a; cases a
    · exact Or.inl
  rw [auA_def, h, auA_def, auA_def]
  cases e1 : auG x.2.1 x.2.2.2.2.2.1 (w % 2 ^ x.1) x.1 with
  | none => rfl
  | some t1 =>
    have ht1 := (auG_le e1).1
    cases e2 : auG y.2.1 y.2.2.2.2.2.1 (w / 2 ^ x.1) y.1 with
    | none => cases t1 <;> simp [cmb]
    | some t2 =>
      cases t2 with
      | zero =>
        show (match some t1 with | none => false | some 0 => (chA x y).2.2.2.2.1 | some (t + 1) => decide ((chA x y).2.2.1 / 2 ^ t % 2 = 1)) = _
        cases t1 with
        | zero => rfl
        | succ t =>
          show decide ((chA x y).2.2.1 / 2 ^ t % 2 = 1) = (decide (x.2.2.1 / 2 ^ t % 2 = 1) && y.2.2.2.2.1)
          rw [Bool.eq_iff_iff, decide_eq_true_eq, Bool.and_eq_true, decide_eq_true_eq]
          exact la t (by omega)
      | succ t =>
        cases t1 with
        | zero =>
          show (match (if (if (0:Nat) = 0 then x.2.2.2.2.1 else decide (x.2.2.1 / 2 ^ (0 - 1) % 2 = 1)) = true then some (x.1 + (t + 1)) else none : Option Nat) with | none => false | some 0 => (chA x y).2.2.2.2.1 | some (t + 1) => decide ((chA x y).2.2.1 / 2 ^ t % 2 = 1)) = (x.2.2.2.2.1 && decide (y.2.2.1 / 2 ^ t % 2 = 1))
          rw [if_pos (rfl : (0:Nat) = 0)]
          cases d : x.2.2.2.2.1 with
          | false => rfl
          | true =>
            show decide ((chA x y).2.2.1 / 2 ^ (x.1 + t) % 2 = 1) = (true && _)
            rw [Bool.true_and]; exact decide_eq_decide.mpr (lb t)
        | succ t1 =>
          show (match (if (if t1 + 1 = 0 then x.2.2.2.2.1 else decide (x.2.2.1 / 2 ^ (t1 + 1 - 1) % 2 = 1)) = true then some (x.1 + (t + 1)) else none : Option Nat) with | none => false | some 0 => (chA x y).2.2.2.2.1 | some (t + 1) => decide ((chA x y).2.2.1 / 2 ^ t % 2 = 1)) = (decide (x.2.2.1 / 2 ^ t1 % 2 = 1) && decide (y.2.2.1 / 2 ^ t % 2 = 1))
          rw [if_neg (show ¬ t1 + 1 = 0 by omega), Nat.add_sub_cancel]
          by_cases d : x.2.2.1 / 2 ^ t1 % 2 = 1
          · rw [decide_eq_true d, if_pos rfl, Bool.true_and]
            show decide ((chA x y).2.2.1 / 2 ^ (x.1 + t) % 2 = 1) = _
            exact decide_eq_decide.mpr (lb t)
          · rw [decide_eq_false d, if_neg (by decide), Bool.false_and]

