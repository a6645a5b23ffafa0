theorem auA_either {x y : pA} (hx : wfB x) (hy : wfB y) {w : Nat} : auG (eiA x y).2.1 (eiA x y).2.2.2.2.2.1 w (eiA x y).1 = match auG x.2.1 x.2.2.2.2.2.1 (w % 2 ^ x.1) x.1 with
    | none => none
    | some t1 => cmb (decide (t1 = 0)) x.1 t1 (auG y.2.1 y.2.2.2.2.2.1 (w / 2 ^ x.1) y.1) :=
  au_two (z := eiA x y) (y := y) (w := w) (acc := fun t => decide (t = 0)) hx rfl
    (fun k hk => by
      refine bit_eq ?_
      show (x.2.1 ||| y.2.1 * 2 ^ x.1) / 2 ^ k % 2 = 1 ↔ _
      rw [bit_or, shl_bit, if_neg (by omega)]
      constructor
      · rintro (a | a)
        · exact a
        · cases a
      · exact Or.inl)
    (fun t ht k hk => by
      show tsN x.1 y.1 x.2.2.2.2.2.1 y.2.2.2.2.2.1 t / 2 ^ k % 2 = _
      rw [tsN_lo ht])
    (fun t ht k hk => by
      show tsN x.1 y.1 x.2.2.2.2.2.1 y.2.2.2.2.2.1 (x.1 + t) / 2 ^ (x.1 + k) % 2 = _
      rw [tsN_hi ht, shl_bit, if_pos (by omega), Nat.add_sub_cancel_left])
    (fun t1 ht1 k hk => by
      rw [decide_eq_true_eq]
      by_cases c : t1 = 0
      · rw [if_pos c]
        show (x.2.1 ||| y.2.1 * 2 ^ x.1) / 2 ^ (x.1 + k) % 2 = 1 ↔ _
        rw [bit_or, wf_hi hx.2.1.1, shl_bit, if_pos (by omega), Nat.add_sub_cancel_left]
        constructor
        · rintro (a | a)
          · cases a
          · exact ⟨c, a⟩
        · rintro ⟨_, a⟩; exact Or.inr a
      · rw [if_neg c]
        show tsN x.1 y.1 x.2.2.2.2.2.1 y.2.2.2.2.2.1 (t1 - 1) / 2 ^ (x.1 + k) % 2 = 1 ↔ _
        rw [tsN_lo (by omega), wf_hi (hx.2.2.1 _ (by omega))]
        constructor
        · intro a; cases a
        · rintro ⟨a, _⟩; exact absurd a c)
theorem ei_la {x y : pA} (hx : wfB x) {t : Nat} : (t < x.1 → ((eiA x y).2.2.1 / 2 ^ t % 2 = 1 ↔ x.2.2.1 / 2 ^ t % 2 = 1)) ∧ ((eiA x y).2.2.1 / 2 ^ (x.1 + t) % 2 = 1 ↔ y.2.2.1 / 2 ^ t % 2 = 1) := by
  constructor
  · intro ht
    show (x.2.2.1 ||| y.2.2.1 * 2 ^ x.1) / 2 ^ t % 2 = 1 ↔ _
    rw [bit_or, shl_bit, if_neg (by omega)]
    constructor
    · rintro (a | a)
      · exact a
      · cases a
    · exact Or.inl
  · show (x.2.2.1 ||| y.2.2.1 * 2 ^ x.1) / 2 ^ (x.1 + t) % 2 = 1 ↔ _
    rw [bit_or, wf_hi hx.2.1.2.1, shl_bit, if_pos (by omega), Nat.add_sub_cancel_left]
    constructor
    · rintro (a | a)
      · cases a
      · exact a
    · exact Or.inr
theorem auG_0 {fi : Nat} {nx : Nat → Nat} {k : Nat} : auG fi nx 0 k = some 0 := by
  have := auG_zero (fi := fi) (nx := nx) (w := 0) (t := 0) (k := k) (fun j _ _ => by rw [Nat.zero_div])
  rw [Nat.zero_add] at this; exact this
theorem lg_chain {x y : pA} (hx : wfB x) (hy : wfB y) {c1 c2 : Nat → cT} {l : List cT} : lgC (chA x y) (cTwo2 x.1 c1 c2) l ↔ ∃ l1 l2, lgC x c1 l1 ∧ lgC y c2 l2 ∧ l = l1 ++ l2 := by
  constructor
  · rintro ⟨w, hw, ha, e⟩
    rw [auA_chain hx hy, Bool.and_eq_true] at ha
    exact ⟨_, _, ⟨w % 2 ^ x.1, Nat.mod_lt _ (Nat.two_pow_pos _), ha.1, rfl⟩, ⟨w / 2 ^ x.1, div_lt2 hw, ha.2, rfl⟩, e.trans (pkL_two y.1)⟩
  · rintro ⟨l1, l2, ⟨w1, h1, a1, rfl⟩, ⟨w2, h2, a2, rfl⟩, rfl⟩
    obtain ⟨e1, e2⟩ := wTwo_of (n1 := x.1) (w2 := w2) h1
    refine ⟨wTwo x.1 w1 w2, wTwo_lt h1 h2, ?_, ?_⟩
    · rw [auA_chain hx hy, e1, e2, a1, a2]; rfl
    · show _ = pkL (cTwo2 x.1 c1 c2) (wTwo x.1 w1 w2) (x.1 + y.1)
      rw [pkL_two, e1, e2]
theorem lg_either {x y : pA} (hx : wfB x) (hy : wfB y) {c1 c2 : Nat → cT} {l : List cT} : lgC (eiA x y) (cTwo2 x.1 c1 c2) l ↔ lgC x c1 l ∨ lgC y c2 l := by
  constructor
  · rintro ⟨w, hw, ha, e⟩
    replace e : l = pkL (cTwo2 x.1 c1 c2) w (x.1 + y.1) := e
    rw [pkL_two] at e
    rw [auA_def, auA_either hx hy] at ha
    cases e1 : auG x.2.1 x.2.2.2.2.2.1 (w % 2 ^ x.1) x.1 with
    | none => rw [e1] at ha; cases ha
    | some t1 =>
      rw [e1] at ha
      have ht1 := (auG_le e1).1
      cases e2 : auG y.2.1 y.2.2.2.2.2.1 (w / 2 ^ x.1) y.1 with
      | none => rw [e2] at ha; cases ha
      | some t2 =>
        rw [e2] at ha
        cases t2 with
        | zero =>
          rw [pk_at e2, show pkL c2 (w / 2 ^ x.1) 0 = [] from rfl, List.append_nil] at e
          cases t1 with
          | zero =>
            replace ha : (x.2.2.2.2.1 || y.2.2.2.2.1) = true := ha
            rw [pk_at e1] at e
            rw [Bool.or_eq_true] at ha
            rcases ha with ha | ha
            · exact Or.inl ⟨0, Nat.two_pow_pos _, by rw [auA_def, auG_0]; exact ha, by rw [pkL_0]; exact e⟩
            · exact Or.inr ⟨0, Nat.two_pow_pos _, by rw [auA_def, auG_0]; exact ha, by rw [pkL_0]; exact e⟩
          | succ t =>
            replace ha : decide ((eiA x y).2.2.1 / 2 ^ t % 2 = 1) = true := ha
            have hb := ((ei_la (y := y) hx).1 (show t < x.1 by omega)).mp (of_decide_eq_true ha)
            exact Or.inl ⟨w % 2 ^ x.1, Nat.mod_lt _ (Nat.two_pow_pos _), by rw [auA_def, e1]; exact decide_eq_true hb, e⟩
        | succ t =>
          cases t1 with
          | zero =>
            replace ha : decide ((eiA x y).2.2.1 / 2 ^ (x.1 + t) % 2 = 1) = true := ha
            have hb := (ei_la (y := y) hx).2.mp (of_decide_eq_true ha)
            rw [pk_at e1, show pkL c1 (w % 2 ^ x.1) 0 = [] from rfl, List.nil_append] at e
            exact Or.inr ⟨w / 2 ^ x.1, div_lt2 hw, by rw [auA_def, e2]; exact decide_eq_true hb, e⟩
          | succ t1 => cases ha
  · rintro (⟨w, hw, ha, rfl⟩ | ⟨w, hw, ha, rfl⟩)
    · obtain ⟨e1, e2⟩ := wTwo_of (n1 := x.1) (w2 := 0) hw
      refine ⟨wTwo x.1 w 0, wTwo_lt hw (Nat.two_pow_pos _), ?_, ?_⟩
      · rw [auA_def, auA_either hx hy, e1, e2, auG_0]
        rw [auA_def] at ha
        cases e : auG x.2.1 x.2.2.2.2.2.1 w x.1 with
        | none => rw [e] at ha; cases ha
        | some t1 =>
          rw [e] at ha
          have ht1 := (auG_le e).1
          cases t1 with
          | zero =>
            replace ha : x.2.2.2.2.1 = true := ha
            show (x.2.2.2.2.1 || y.2.2.2.2.1) = true
            rw [ha]; rfl
          | succ t =>
            show decide ((eiA x y).2.2.1 / 2 ^ t % 2 = 1) = true
            exact decide_eq_true (((ei_la (y := y) hx).1 (show t < x.1 by omega)).mpr (of_decide_eq_true ha))
      · show _ = pkL (cTwo2 x.1 c1 c2) (wTwo x.1 w 0) (x.1 + y.1)
        rw [pkL_two, e1, e2, pkL_0, List.append_nil]
    · obtain ⟨e1, e2⟩ := wTwo_of (n1 := x.1) (w2 := w) (Nat.two_pow_pos x.1)
      refine ⟨wTwo x.1 0 w, wTwo_lt (Nat.two_pow_pos _) hw, ?_, ?_⟩
      · rw [auA_def, auA_either hx hy, e1, e2, auG_0]
        rw [auA_def] at ha
        cases e : auG y.2.1 y.2.2.2.2.2.1 w y.1 with
        | none => rw [e] at ha; cases ha
        | some t2 =>
          rw [e] at ha
          cases t2 with
          | zero =>
            replace ha : y.2.2.2.2.1 = true := ha
            show (x.2.2.2.2.1 || y.2.2.2.2.1) = true
            rw [ha, Bool.or_true]
          | succ t =>
            show decide ((eiA x y).2.2.1 / 2 ^ (x.1 + t) % 2 = 1) = true
            exact decide_eq_true ((ei_la (y := y) hx).2.mpr (of_decide_eq_true ha))
      · show _ = pkL (cTwo2 x.1 c1 c2) (wTwo x.1 0 w) (x.1 + y.1)
        rw [pkL_two, e1, e2, pkL_0, List.nil_append]
theorem auG_cut {fi m : Nat} {nx : Nat → Nat} {w : Nat} : ∀ k, k ≤ m → auG fi (cutN m nx) w k = auG fi nx w k
  | 0, _ => rfl
  | k + 1, hk => by
    rw [auG, auG, auG_cut k (by omega)]
    cases e : auG fi nx w k with
    | none => rfl
    | some t =>
      have ht := (auG_le e).1
      show (if _ then (if (if t = 0 then fi else cutN m nx (t - 1)) / 2 ^ k % 2 = 1 then _ else _) else _) = (if _ then (if (if t = 0 then fi else nx (t - 1)) / 2 ^ k % 2 = 1 then _ else _) else _)
      by_cases c : t = 0
      · rw [if_pos c, if_pos c]
      · rw [if_neg c, if_neg c, show cutN m nx (t - 1) = nx (t - 1) by unfold cutN; rw [if_pos (by omega)]]
theorem lg_times {x : pA} {c : Bool} {ct : Nat → cT} {l : List cT} : lgC (tmA x c) ct l ↔ lgC x ct l ∨ (c = true ∧ l = []) := by
  have e : ∀ w, auG (tmA x c).2.1 (tmA x c).2.2.2.2.2.1 w (tmA x c).1 = auG x.2.1 x.2.2.2.2.2.1 w x.1 := fun w => auG_cut x.1 (Nat.le_refl _)
  constructor
  · rintro ⟨w, hw, ha, rfl⟩
    rw [auA_def, e] at ha
    cases e1 : auG x.2.1 x.2.2.2.2.2.1 w x.1 with
    | none => rw [e1] at ha; cases ha
    | some t =>
      rw [e1] at ha
      cases t with
      | zero =>
        replace ha : (x.2.2.2.2.1 || c) = true := ha
        rw [Bool.or_eq_true] at ha
        have e2 : pkL ct w x.1 = [] := by rw [pk_at e1]; rfl
        rcases ha with ha | ha
        · exact Or.inl ⟨w, hw, by rw [auA_def, e1]; exact ha, rfl⟩
        · exact Or.inr ⟨ha, e2⟩
      | succ t => exact Or.inl ⟨w, hw, by rw [auA_def, e1]; exact ha, rfl⟩
  · rintro (⟨w, hw, ha, rfl⟩ | ⟨hc, rfl⟩)
    · refine ⟨w, hw, ?_, rfl⟩
      rw [auA_def, e]
      rw [auA_def] at ha
      cases e1 : auG x.2.1 x.2.2.2.2.2.1 w x.1 with
      | none => rw [e1] at ha; cases ha
      | some t =>
        rw [e1] at ha
        cases t with
        | zero =>
          replace ha : x.2.2.2.2.1 = true := ha
          show (x.2.2.2.2.1 || c) = true
          rw [ha]; rfl
        | succ t => exact ha
    · refine ⟨0, Nat.two_pow_pos _, ?_, (pkL_0 _).symm⟩
      rw [auA_def, auG_0]
      show (x.2.2.2.2.1 || c) = true
      rw [hc, Bool.or_true]
/-- so many rows of a kind, one behind the other -/
def powL (P : List cT → Prop) : Nat → List cT → Prop
  | 0, l => l = []
  | t + 1, l => ∃ l1 l2, powL P t l1 ∧ P l2 ∧ l = l1 ++ l2
theorem wfB_times {x : pA} (h : wfB x) (c : Bool) : wfB (tmA x c) := by
  obtain ⟨a, b, d, e⟩ := h
  have q : ∀ j, j < x.1 → cutN x.1 x.2.2.2.2.2.1 j = x.2.2.2.2.2.1 j := fun j hj => if_pos hj
  exact ⟨a, b, fun j hj => by show cutN x.1 x.2.2.2.2.2.1 j < _; rw [q j hj]; exact d j hj, fun j hj i hi => by show cutN x.1 x.2.2.2.2.2.1 j / _ % 2 = 0; rw [q j hj]; exact e j hj i hi⟩
theorem pow_mul_lt {a n m : Nat} (h : a < 2 ^ m) : a * 2 ^ n < 2 ^ (n + m) := by
  rw [Nat.pow_add, Nat.mul_comm]
  exact Nat.mul_lt_mul_of_pos_left h (Nat.two_pow_pos n)
theorem pow_up {a n m : Nat} (h : a < 2 ^ n) : a < 2 ^ (n + m) := Nat.lt_of_lt_of_le h (Nat.pow_le_pow_right (by decide) (Nat.le_add_right _ _))
theorem ts_lt {x y : pA} (hx : wfB x) (hy : wfB y) : ∀ j, j < x.1 + y.1 → tsN x.1 y.1 x.2.2.2.2.2.1 y.2.2.2.2.2.1 j < 2 ^ (x.1 + y.1) := fun j hj => by
  by_cases c : j < x.1
  · rw [tsN_lo c]; exact pow_up (hx.2.2.1 j c)
  · rw [show j = x.1 + (j - x.1) by omega, tsN_hi (by omega)]; exact pow_mul_lt (hy.2.2.1 _ (by omega))
theorem ts_fw {x y : pA} (hx : wfB x) (hy : wfB y) : ∀ j, j < x.1 + y.1 → ∀ i, i ≤ j → tsN x.1 y.1 x.2.2.2.2.2.1 y.2.2.2.2.2.1 j / 2 ^ i % 2 = 0 := fun j hj i hi => by
  by_cases c : j < x.1
  · rw [tsN_lo c]; exact hx.2.2.2 j c i hi
  · rw [show j = x.1 + (j - x.1) by omega, tsN_hi (by omega), shl_bit]
    split
    · exact hy.2.2.2 _ (by omega) _ (by omega)
    · rfl
theorem or_bit0 {a b k : Nat} (ha : a / 2 ^ k % 2 = 0) (hb : b / 2 ^ k % 2 = 0) : (a ||| b) / 2 ^ k % 2 = 0 := by
  rcases bit01 (a ||| b) k with h | h
  · exact h
  · rcases bit_or.mp h with z | z <;> omega
theorem wfB_chain {x y : pA} (hx : wfB x) (hy : wfB y) (h8 : x.1 + y.1 ≤ 8) : wfB (chA x y) := by
  have hif : ∀ {c : Bool} {a n : Nat}, a < 2 ^ n → (if c = true then a else 0) < 2 ^ n := fun {c a n} h => by
    split
    · exact h
    · exact Nat.two_pow_pos n
  refine ⟨⟨by show 1 ≤ x.1 + y.1; have := hx.1.1; omega, h8⟩, ⟨or_lt (pow_up hx.2.1.1) (hif (pow_mul_lt hy.2.1.1)), or_lt (pow_mul_lt hy.2.1.2.1) (hif (pow_up hx.2.1.2.1)), mskF_or hx.2.1.2.2 hy.2.1.2.2⟩, fun j hj => ?_, fun j hj i hi => ?_⟩
  · show chX x.1 y.1 x.2.2.2.2.2.1 y.2.2.2.2.2.1 x.2.2.1 y.2.1 x.1 j < 2 ^ (x.1 + y.1)
    unfold chX
    split
    · exact or_lt (ts_lt hx hy j hj) (pow_mul_lt hy.2.1.1)
    · exact ts_lt hx hy j hj
  · show chX x.1 y.1 x.2.2.2.2.2.1 y.2.2.2.2.2.1 x.2.2.1 y.2.1 x.1 j / 2 ^ i % 2 = 0
    unfold chX
    split
    · refine or_bit0 (ts_fw hx hy j hj i hi) ?_
      rw [shl_bit, if_neg (by omega)]
    · exact ts_fw hx hy j hj i hi
theorem wfB_either {x y : pA} (hx : wfB x) (hy : wfB y) (h8 : x.1 + y.1 ≤ 8) : wfB (eiA x y) :=
  ⟨⟨by show 1 ≤ x.1 + y.1; have := hx.1.1; omega, h8⟩, ⟨or_lt (pow_up hx.2.1.1) (pow_mul_lt hy.2.1.1), or_lt (pow_up hx.2.1.2.1) (pow_mul_lt hy.2.1.2.1), mskF_or hx.2.1.2.2 hy.2.1.2.2⟩, ts_lt hx hy, ts_fw hx hy⟩
theorem wfB_rep {x : pA} {l M : Nat} (h : wfB x) (h8 : x.1 * M ≤ 8) : ∀ k, k < M → wfB (rpA x l k)
  | 0, _ => wfB_times h _
  | k + 1, hk => by
    refine wfB_chain (wfB_rep h h8 k (by omega)) (wfB_times h _) ?_
    show (rpA x l k).1 + x.1 ≤ 8
    rw [rpA_n, ← Nat.mul_succ]
    exact Nat.le_trans (Nat.mul_le_mul_left _ (by omega)) h8
/-- contents that come again and again -/
def cMod (m : Nat) (c : Nat → cT) : Nat → cT := fun j => c (j % m)
theorem lgC_congr {y : pA} {c d : Nat → cT} (h : ∀ j, j < y.1 → c j = d j) {l : List cT} : lgC y c l ↔ lgC y d l := by
  have e : ∀ w, pkL c w y.1 = pkL d w y.1 := fun w => pkL_congr (fun j hj => ⟨h j hj, rfl⟩)
  unfold lgC
  simp only [e]
theorem lg_rep {x : pA} {le M : Nat} (h : wfB x) (h8 : x.1 * M ≤ 8) {c : Nat → cT} {l : List cT} : ∀ k, k < M → (lgC (rpA x le k) (cMod x.1 c) l ↔ ∃ t, (le ≤ t ∨ k + 1 ≤ t) ∧ t ≤ k + 1 ∧ powL (lgC x c) t l)
  | 0, _ => by
    show lgC (tmA x (decide (le = 0))) (cMod x.1 c) l ↔ _
    rw [lgC_congr (d := c) (fun j hj => by show c (j % x.1) = c j; rw [Nat.mod_eq_of_lt (show j < x.1 from hj)]), lg_times, decide_eq_true_eq]
    constructor
    · rintro (a | ⟨a, b⟩)
      · exact ⟨1, Or.inr (Nat.le_refl _), Nat.le_refl _, [], l, rfl, a, rfl⟩
      · exact ⟨0, Or.inl (by omega), by omega, b⟩
    · rintro ⟨t, a, b, d⟩
      rcases (show t = 0 ∨ t = 1 by omega) with e | e <;> subst e
      · exact Or.inr ⟨by omega, d⟩
      · obtain ⟨l1, l2, d1, d2, d3⟩ := d
        replace d1 : l1 = [] := d1
        rw [d3, d1]; exact Or.inl d2
  | k + 1, hk => by
    have hn := rpA_n x le k
    have hw := wfB_rep (l := le) h h8 k (by omega)
    show lgC (chA (rpA x le k) (tmA x (decide (le ≤ k + 1)))) (cMod x.1 c) l ↔ _
    have hx1 := h.1.1
    rw [lgC_congr (d := cTwo2 (rpA x le k).1 (cMod x.1 c) c) (fun j hj => by
      unfold cTwo2
      split
      · rfl
      · rename_i hj2
        replace hj : j < (rpA x le k).1 + x.1 := hj
        unfold cMod
        rw [hn] at hj hj2 ⊢
        congr 1
        rw [show j = j - x.1 * (k + 1) + x.1 * (k + 1) by omega, Nat.add_mul_mod_self_left, Nat.mod_eq_of_lt (by omega), Nat.add_sub_cancel]), lg_chain hw (wfB_times h _)]
    constructor
    · rintro ⟨l1, l2, a, b, rfl⟩
      obtain ⟨t, t1, t2, t3⟩ := (lg_rep h h8 k (by omega)).mp a
      rcases lg_times.mp b with b2 | ⟨hc, rfl⟩
      · exact ⟨t + 1, by omega, by omega, l1, l2, t3, b2, rfl⟩
      · rw [List.append_nil]
        have := of_decide_eq_true hc
        exact ⟨t, by omega, by omega, t3⟩
    · rintro ⟨t, t1, t2, t3⟩
      by_cases e : t ≤ k + 1 ∧ le ≤ k + 1
      · exact ⟨l, [], (lg_rep h h8 k (by omega)).mpr ⟨t, by omega, e.1, t3⟩, lg_times.mpr (Or.inr ⟨decide_eq_true e.2, rfl⟩), (List.append_nil _).symm⟩
      · obtain ⟨t', rfl⟩ : ∃ t', t = t' + 1 := ⟨t - 1, by omega⟩
        obtain ⟨l1, l2, d1, d2, d3⟩ := t3
        exact ⟨l1, l2, (lg_rep h h8 k (by omega)).mpr ⟨t', by omega, by omega, d1⟩, lg_times.mpr (Or.inl d2), d3⟩

