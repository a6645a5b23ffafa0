/-! the parts of the class beside those of the reference -/
def pkR (g : mS) (p : Nat) (y : pA) (T : Nat → tC3) : Prop := y.1 = mN g 8 p ∧ wfB y ∧ (∀ j, j < y.1 → tRl (T (y.2.2.2.2.2.2 j)) (tcM g (8 * p + j)) ∧ (∀ i, i < 6 → (T (y.2.2.2.2.2.2 j)).1 i < 18446744073709551616) ∧ (T (y.2.2.2.2.2.2 j)).2.1 < 512 ∧ (T (y.2.2.2.2.2.2 j)).2.2 < 8) ∧ (∀ j, j < y.1 → ∀ k, k < 9 → (T (y.2.2.2.2.2.2 j)).2.1 / 2 ^ k % 2 = 1 → fdS y.2.2.2.1 (k % 3) = 63) ∧ ∀ l, lgC y (fun j => tcM g (8 * p + j)) l ↔ lgM g p l
theorem lgM_mv {g g' : mS} {p p' : Nat} {l : List cT} (hn : mN g 8 p ≤ 8) (h1 : mN g' 8 p' = mN g 8 p) (h2 : ∀ w, w < 256 → mB g' 10 (256 * p' + w) = mB g 10 (256 * p + w)) (h3 : ∀ j, j < 8 → tcM g' (8 * p' + j) = tcM g (8 * p + j)) : lgM g' p' l ↔ lgM g p l := by
  have e : 2 ^ mN g 8 p ≤ 256 := Nat.pow_le_pow_right (n := 2) (by decide) hn
  have q : ∀ w, pkL (fun j => tcM g' (8 * p' + j)) w (mN g 8 p) = pkL (fun j => tcM g (8 * p + j)) w (mN g 8 p) := fun w => pkL_congr (fun j hj => ⟨h3 j (by omega), rfl⟩)
  unfold lgM
  rw [h1]
  constructor
  · rintro ⟨w, a, b, c⟩
    rw [q] at c
    exact ⟨w, a, by rw [← h2 w (by omega)]; exact b, c⟩
  · rintro ⟨w, a, b, c⟩
    rw [← q] at c
    exact ⟨w, a, by rw [h2 w (by omega)]; exact b, c⟩
theorem pkR_mv {g g' : mS} {p p' : Nat} {y : pA} {T T' : Nat → tC3} (k : pkR g p y T) (h1 : mN g' 8 p' = mN g 8 p) (h2 : ∀ w, w < 256 → mB g' 10 (256 * p' + w) = mB g 10 (256 * p + w)) (h3 : ∀ j, j < 8 → tcM g' (8 * p' + j) = tcM g (8 * p + j)) (h4 : ∀ j, j < y.1 → T' (y.2.2.2.2.2.2 j) = T (y.2.2.2.2.2.2 j)) : pkR g' p' y T' := by
  obtain ⟨a, b, c, d, e⟩ := k
  have hn := b.1.2
  refine ⟨a.trans h1.symm, b, fun j hj => by rw [h4 j hj, h3 j (by omega)]; exact c j hj, fun j hj => by rw [h4 j hj]; exact d j hj, fun l => ?_⟩
  rw [lgM_mv (by omega) h1 h2 h3, lgC_congr (d := fun j => tcM g (8 * p + j)) (fun j hj => h3 j (by omega))]
  exact e l
theorem pkR.W {g : mS} {p : Nat} {y : pA} {T : Nat → tC3} (k : pkR g p y T) : wkR g y T (fun j => tcM g (8 * p + j)) := ⟨fun j hj => (k.2.2.1 j hj).1, k.2.1.2.1.2.2, k.2.2.2.1, k.2.1.2.2.2, k.2.1.A⟩
def pk1 (G : eG) (ad : Nat → Nat → Nat) (h : hp) (g : mS) (T : Nat → tC3) (p a1 : Nat) (y : pA) (is : Bool) : Prop := 0 < a1 ∧ prA G ad h (a1 - 1) y is ∧ (∀ j, j < y.1 → tst G ad h (y.2.2.2.2.2.2 j) (T (y.2.2.2.2.2.2 j)).1 (T (y.2.2.2.2.2.2 j)).2.1 (T (y.2.2.2.2.2.2 j)).2.2) ∧ pkR g p y T
/-- all parts that stand -/
def lnk (G : eG) (ad : Nat → Nat → Nat) (h : hp) (g : mS) (T : Nat → tC3) (X Y : Nat → pA) : Prop := (∀ i, i < mK g 16 → pk1 G ad h g T (12 + i) (mN g 60 i) (X i) (mB g 9 (12 + i))) ∧ ∀ p, p < mK g 15 → ∃ is, pk1 G ad h g T p (mN g 61 p) (Y p) is
theorem pk1.mv {G : eG} {ad : Nat → Nat → Nat} {h h' : hp} {g : mS} {T : Nat → tC3} {p a1 : Nat} {y : pA} {is : Bool} (k : pk1 G ad h g T p a1 y is) (c : cfr ad h h') : pk1 G ad h' g T p a1 y is := ⟨k.1, k.2.1.mv c, fun j hj => (k.2.2.1 j hj).mv c, k.2.2.2⟩
theorem pk1.to {G : eG} {ad : Nat → Nat → Nat} {h : hp} {g g' : mS} {T T' : Nat → tC3} {p p' a1 a1' : Nat} {y : pA} {is is' : Bool} (k : pk1 G ad h g T p a1 y is) (ha : a1' = a1) (hi : is' = is) (h1 : mN g' 8 p' = mN g 8 p) (h2 : ∀ w, w < 256 → mB g' 10 (256 * p' + w) = mB g 10 (256 * p + w)) (h3 : ∀ j, j < 8 → tcM g' (8 * p' + j) = tcM g (8 * p + j)) (h4 : ∀ j, j < y.1 → T' (y.2.2.2.2.2.2 j) = T (y.2.2.2.2.2.2 j)) : pk1 G ad h g' T' p' a1' y is' := by
  subst ha; subst hi
  exact ⟨k.1, k.2.1, fun j hj => by rw [h4 j hj]; exact k.2.2.1 j hj, pkR_mv k.2.2.2 h1 h2 h3 h4⟩
theorem lnk.mv {G : eG} {ad : Nat → Nat → Nat} {h h' : hp} {g : mS} {T : Nat → tC3} {X Y : Nat → pA} (k : lnk G ad h g T X Y) (c : cfr ad h h') : lnk G ad h' g T X Y := ⟨fun i hi => (k.1 i hi).mv c, fun p hp => (fun ⟨is, q⟩ => ⟨is, q.mv c⟩) (k.2 p hp)⟩
theorem pk1.P {G : eG} {ad : Nat → Nat → Nat} {h : hp} {g : mS} {T : Nat → tC3} {p a1 : Nat} {y : pA} {is : Bool} (k : pk1 G ad h g T p a1 y is) : paA G ad h T (a1 - 1) y is := ⟨k.2.1, ⟨k.2.2.2.2.1.1.1, k.2.2.2.2.1.1.2, k.2.2.2.2.1.A.2.1.2.1⟩, fun j hj => ⟨k.2.2.1 j hj, (k.2.2.2.2.2.1 j hj).2.2⟩⟩
theorem lnk.pl {G : eG} {ad : Nat → Nat → Nat} {h : hp} {g : mS} {T : Nat → tC3} {X Y : Nat → pA} (k : lnk G ad h g T X Y) (I : mInv g) : plk G ad h g T X := ⟨pile_le I, fun i hi => ⟨⟨(k.1 i hi).1, (k.1 i hi).2.2.2.1⟩, (k.1 i hi).P⟩⟩
theorem lnk.pt {G : eG} {ad : Nat → Nat → Nat} {h : hp} {g : mS} {T : Nat → tC3} {X Y : Nat → pA} (k : lnk G ad h g T X Y) : ptk G ad h g T Y := fun p hp => by
  obtain ⟨is, q⟩ := k.2 p hp
  exact ⟨q.1, ⟨is, q.2.1, q.2.2.2.2.1.A, fun j hj => ⟨⟨q.2.2.1 j hj, (q.2.2.2.2.2.1 j hj).2.2⟩, (q.2.2.2.2.2.1 j hj).2.1⟩⟩, q.2.2.2.W, q.2.2.2.2.2.2.2⟩
/-- where the parts' rows are the same -/
theorem lnk.cong {G : eG} {ad : Nat → Nat → Nat} {h : hp} {g g' : mS} {T : Nat → tC3} {X Y : Nat → pA} (k : lnk G ad h g T X Y) (e1 : mK g' 16 = mK g 16 ∧ mK g' 15 = mK g 15) (e2 : ∀ j, (j = 8 ∨ j = 12 ∨ j = 13 ∨ j = 14 ∨ j = 60 ∨ j = 61) → ∀ i, mN g' j i = mN g j i) (e3 : (∀ i, mB g' 9 i = mB g 9 i) ∧ (∀ i, mB g' 10 i = mB g 10 i) ∧ ∀ i, mI g' 11 i = mI g 11 i) : lnk G ad h g' T X Y := by
  have t : ∀ t, tcM g' t = tcM g t := fun t => by
    unfold tcM
    simp only [e2 12 (by decide), e2 13 (by decide), e2 14 (by decide), e3.2.2]
  refine ⟨fun i hi => ?_, fun p hp => ?_⟩
  · rw [e1.1] at hi
    exact (k.1 i hi).to (e2 60 (by decide) _) (e3.1 _) (e2 8 (by decide) _) (fun w _ => e3.2.1 _) (fun j _ => t _) (fun j _ => rfl)
  · rw [e1.2] at hp
    obtain ⟨is, q⟩ := k.2 p hp
    exact ⟨is, q.to (e2 61 (by decide) _) rfl (e2 8 (by decide) _) (fun w _ => e3.2.1 _) (fun j _ => t _) (fun j _ => rfl)⟩
/-! tests -/
theorem ones_bit {k : Nat} (h : k < 64) : 18446744073709551615 / 2 ^ k % 2 = 1 := by
  have e : ∀ k, k < 64 → 18446744073709551615 / 2 ^ k % 2 = 1 := by decide +kernel
  exact e k h
theorem allP_bit {i k : Nat} (hi : i < 6) (h : k < 64) : allP i / 2 ^ k % 2 = 1 := by
  unfold allP; rw [if_pos hi]; exact ones_bit h
theorem nI_m1 {v : Nat} (h : v < 100) : nI v ≠ -1 := by
  have e : ∀ v, v < 100 → nI v ≠ -1 := by decide
  exact e v h
theorem tR_any {g : mS} {t : Nat} (h1 : ∀ k, k < 3 → mI g 11 (3 * t + k) = -1) (h2 : ∀ k, k < 6 → mN g 12 (6 * t + k) = 0) (h3 : mN g 13 t = 0) {sm : Nat} (h4 : ∀ a, a < 3 → ∀ l, l < 3 → sm / 2 ^ (a * 3 + l) % 2 = mN g 14 t / 2 ^ (3 * l + a) % 2) : tRl (allP, sm, 0) (tcM g t) := by
  refine ⟨h3.symm, h4, fun a ha v hv => ?_⟩
  show allP (a * 2 + v / 64) / 2 ^ (v % 64) % 2 = 1 ↔ ((if a < 3 then mI g 11 (3 * t + a) else 0) = -1 ∨ (if a < 3 then mI g 11 (3 * t + a) else 0) = nI v) ∧ (if 2 * a + v / 50 < 6 then mN g 12 (6 * t + (2 * a + v / 50)) else 0) / 2 ^ (v % 50) % 2 = 0
  rw [if_pos ha, if_pos (by omega), h1 a ha, h2 _ (by omega), Nat.zero_div]
  exact ⟨fun _ => ⟨Or.inl rfl, rfl⟩, fun _ => allP_bit (by omega) (by omega)⟩
theorem tR_val {g : mS} {t x u : Nat} (hx : x < 3) (hu : u < 100) (h1 : ∀ k, k < 3 → mI g 11 (3 * t + k) = if k = x then nI u else -1) (h2 : ∀ k, k < 6 → mN g 12 (6 * t + k) = 0) (h3 : mN g 13 t = 0) (h4 : mN g 14 t = 0) : tRl (valP x u, 0, 0) (tcM g t) := by
  refine ⟨h3.symm, fun a ha l hl => by show 0 / _ % 2 = mN g 14 t / _ % 2; rw [h4, Nat.zero_div, Nat.zero_div], fun a ha v hv => ?_⟩
  show valP x u (a * 2 + v / 64) / 2 ^ (v % 64) % 2 = 1 ↔ ((if a < 3 then mI g 11 (3 * t + a) else 0) = -1 ∨ (if a < 3 then mI g 11 (3 * t + a) else 0) = nI v) ∧ (if 2 * a + v / 50 < 6 then mN g 12 (6 * t + (2 * a + v / 50)) else 0) / 2 ^ (v % 50) % 2 = 0
  rw [if_pos ha, if_pos (by omega), h1 a ha, h2 _ (by omega), Nat.zero_div]
  unfold valP
  by_cases c : a = x
  · subst c
    rw [if_pos rfl]
    by_cases d : v / 64 = u / 64
    · rw [if_pos (by omega), bit_pow]
      constructor
      · intro e; exact ⟨Or.inr (by rw [show u = v by omega]), rfl⟩
      · rintro ⟨e | e, _⟩
        · exact absurd e (nI_m1 hu)
        · have := nI_inj (by omega) (by omega) e; omega
    · rw [if_neg (by omega), if_pos (by omega), Nat.zero_div]
      constructor
      · intro e; cases e
      · rintro ⟨e | e, _⟩
        · exact absurd e (nI_m1 hu)
        · have := nI_inj (by omega) (by omega) e; omega
  · rw [if_neg c, if_neg (by omega), if_neg (by omega)]
    exact ⟨fun _ => ⟨Or.inl rfl, rfl⟩, fun _ => allP_bit (by omega) (by omega)⟩
theorem xor_bit {a b k : Nat} : (a ^^^ b) / 2 ^ k % 2 = 1 ↔ ¬ (a / 2 ^ k % 2 = 1 ↔ b / 2 ^ k % 2 = 1) := by
  have h := Nat.testBit_xor a b k
  rw [bitE, bitE, bitE] at h
  by_cases x : a / 2 ^ k % 2 = 1 <;> by_cases y : b / 2 ^ k % 2 = 1 <;> simp [x, y] at h ⊢ <;> exact h
theorem tR_oth {g : mS} {t x u : Nat} (hx : x < 3) (hu : u < 100) (h1 : ∀ k, k < 3 → mI g 11 (3 * t + k) = -1) (h2 : ∀ k, k < 6 → mN g 12 (6 * t + k) = if k = 2 * x + u / 50 then 2 ^ (u % 50) else 0) (h3 : mN g 13 t = 0) (h4 : mN g 14 t = 0) : tRl (othP x u, 0, 0) (tcM g t) := by
  refine ⟨h3.symm, fun a ha l hl => by show 0 / _ % 2 = mN g 14 t / _ % 2; rw [h4, Nat.zero_div, Nat.zero_div], fun a ha v hv => ?_⟩
  show othP x u (a * 2 + v / 64) / 2 ^ (v % 64) % 2 = 1 ↔ ((if a < 3 then mI g 11 (3 * t + a) else 0) = -1 ∨ (if a < 3 then mI g 11 (3 * t + a) else 0) = nI v) ∧ (if 2 * a + v / 50 < 6 then mN g 12 (6 * t + (2 * a + v / 50)) else 0) / 2 ^ (v % 50) % 2 = 0
  rw [if_pos ha, if_pos (by omega), h1 a ha, h2 _ (by omega)]
  have e1 : othP x u (a * 2 + v / 64) / 2 ^ (v % 64) % 2 = 1 ↔ ¬ (a = x ∧ v = u) := by
    unfold othP
    by_cases c : a * 2 + v / 64 = x * 2 + u / 64
    · rw [if_pos c, xor_bit, bit_pow, ones_bit (by omega)]
      constructor
      · rintro q ⟨_, z⟩; exact q ⟨fun _ => rfl, fun _ => by rw [z]⟩
      · intro q z
        have := z.mpr rfl
        exact q ⟨by omega, by omega⟩
    · rw [if_neg c]
      exact ⟨fun _ z => c (by rw [z.1, z.2]), fun _ => allP_bit (by omega) (by omega)⟩
  have e2 : (if 2 * a + v / 50 = 2 * x + u / 50 then 2 ^ (u % 50) else 0) / 2 ^ (v % 50) % 2 = 0 ↔ ¬ (a = x ∧ v = u) := by
    by_cases c : 2 * a + v / 50 = 2 * x + u / 50
    · rw [if_pos c]
      constructor
      · rintro q ⟨_, z⟩
        rw [z] at q
        have := bit_pow.mpr (rfl : u % 50 = u % 50)
        omega
      · intro q
        rcases bit01 (2 ^ (u % 50)) (v % 50) with z | z
        · exact z
        · have := bit_pow.mp z
          exact absurd ⟨by omega, by omega⟩ q
    · rw [if_neg c, Nat.zero_div]
      exact ⟨fun _ z => c (by rw [z.1, z.2]), fun _ => rfl⟩
  rw [e1, e2]
  exact ⟨fun q => ⟨Or.inl rfl, q⟩, fun q => q.2⟩
theorem tR_lab {c : tC3} {m : cT} {e : Nat} (h : tRl c m) {P : Nat → Nat} (hP : ∀ i, i < 6 → P i = c.1 i) : tRl (P, c.2.1, c.2.2 ||| e) (m.1, m.2.1, m.2.2.1 ||| e, m.2.2.2) := ⟨by show c.2.2 ||| e = m.2.2.1 ||| e; rw [h.1], h.2.1, fun a ha v hv => by show P _ / _ % 2 = 1 ↔ _; rw [hP _ (by omega)]; exact h.2.2 a ha v hv⟩
theorem or_bit_iff {a b k : Nat} : (a ||| b) / 2 ^ k % 2 = 0 ↔ a / 2 ^ k % 2 = 0 ∧ b / 2 ^ k % 2 = 0 := by
  have h := bit_or (a := a) (b := b) (k := k)
  omega
theorem vJoin_iff {v w x : Int32} (h2 : x ≠ -2) (h3 : v ≠ -2 → w ≠ -2 → True) (hx : x ≠ -1) : (vJoin v w = -1 ∨ vJoin v w = x) ↔ (v = -1 ∨ v = x) ∧ (w = -1 ∨ w = x) := by
  unfold vJoin
  by_cases a : v = -1
  · rw [if_pos a]
    exact ⟨fun q => ⟨Or.inl a, q⟩, fun q => q.2⟩
  · rw [if_neg a]
    by_cases b : w = -1 ∨ w = v
    · rw [if_pos b]
      rcases b with b | b
      · exact ⟨fun q => ⟨q, Or.inl b⟩, fun q => q.1⟩
      · rw [b]; exact ⟨fun q => ⟨q, q⟩, fun q => q.1⟩
    · rw [if_neg b]
      constructor
      · rintro (q | q)
        · exact absurd q (by decide)
        · exact absurd q.symm h2
      · rintro ⟨p | p, q | q⟩
        · exact absurd p a
        · exact absurd p a
        · exact absurd (Or.inl q) b
        · exact absurd (Or.inr (q.trans p.symm)) b
theorem tR_both {c d : tC3} {m n k : cT} (h : tRl c m) (h' : tRl d n) (e1 : ∀ a, a < 3 → k.1 a = vJoin (m.1 a) (n.1 a)) (e2 : ∀ i, i < 6 → k.2.1 i = m.2.1 i ||| n.2.1 i) (e3 : k.2.2.1 = m.2.2.1 ||| n.2.2.1) (e4 : k.2.2.2 = m.2.2.2 ||| n.2.2.2) : tRl (botP c.1 d.1, c.2.1 ||| d.2.1, c.2.2 ||| d.2.2) k := by
  refine ⟨by show c.2.2 ||| d.2.2 = k.2.2.1; rw [e3, h.1, h'.1], fun a ha l hl => ?_, fun a ha v hv => ?_⟩
  · show (c.2.1 ||| d.2.1) / 2 ^ (a * 3 + l) % 2 = k.2.2.2 / 2 ^ (3 * l + a) % 2
    rw [e4]
    refine Nat.le_antisymm ?_ ?_
    · rcases bit01 (c.2.1 ||| d.2.1) (a * 3 + l) with z | z
      · omega
      · have := bit_or.mp z
        rw [h.2.1 a ha l hl, h'.2.1 a ha l hl, ← bit_or] at this
        omega
    · rcases bit01 (m.2.2.2 ||| n.2.2.2) (3 * l + a) with z | z
      · omega
      · have := bit_or.mp z
        rw [← h.2.1 a ha l hl, ← h'.2.1 a ha l hl, ← bit_or] at this
        omega
  · show botP c.1 d.1 (a * 2 + v / 64) / 2 ^ (v % 64) % 2 = 1 ↔ _
    unfold botP
    have hx : nI v ≠ -2 := by
      have e : ∀ v, v < 100 → nI v ≠ -2 := by decide
      exact e v hv
    rw [if_pos (by omega), bit_and, h.2.2 a ha v hv, h'.2.2 a ha v hv, e1 a ha, e2 _ (by omega), vJoin_iff hx (fun _ _ => trivial) (nI_m1 hv), or_bit_iff]
    constructor
    · rintro ⟨⟨a, b⟩, c, d⟩; exact ⟨⟨a, c⟩, b, d⟩
    · rintro ⟨⟨a, c⟩, b, d⟩; exact ⟨⟨a, b⟩, c, d⟩
/-- the part of one test -/
theorem pkR_one {g : mS} {p t : Nat} {T : Nat → tC3} {c : tC3} (hT : T t = c) (h1 : mN g 8 p = 1) (h2 : ∀ w, w < 256 → mB g 10 (256 * p + w) = decide (w = 1)) (hR : tRl c (tcM g (8 * p))) (hP : ∀ i, i < 6 → c.1 i < 18446744073709551616) (hs : c.2.1 < 512) (hl : c.2.2 < 8) : pkR g p (1, 1, 1, rsF c.2.1 9, false, (fun _ => 0), fun _ => t) T := by
  refine ⟨h1.symm, ⟨⟨Nat.le_refl _, (show (1:Nat) ≤ 8 by decide)⟩, ⟨(show (1:Nat) < 2 ^ 1 by decide), (show (1:Nat) < 2 ^ 1 by decide), mskF_rs _ _⟩, fun j _ => (show (0:Nat) < 2 ^ 1 by decide), fun j _ i _ => by rw [Nat.zero_div]⟩, fun j hj => ?_, fun j hj k hk hb => ?_, fun l => ?_⟩
  · have : j = 0 := by replace hj : j < 1 := hj; omega
    subst this
    show tRl (T t) _ ∧ (∀ i, i < 6 → (T t).1 i < _) ∧ (T t).2.1 < 512 ∧ (T t).2.2 < 8
    rw [hT]; exact ⟨hR, hP, hs, hl⟩
  · show fdS (rsF c.2.1 9) (k % 3) = 63
    replace hb : (T t).2.1 / 2 ^ k % 2 = 1 := hb
    rw [hT] at hb
    exact rsF_has hk hb
  · constructor
    · rintro ⟨w, hw, ha, e⟩
      replace hw : w < 2 := hw
      rcases (show w = 0 ∨ w = 1 by omega) with z | z <;> subst z
      · cases ha
      · exact ⟨1, by rw [h1]; decide, by rw [h2 1 (by decide)]; rfl, by rw [h1]; exact e⟩
    · rintro ⟨w, hw, ha, e⟩
      rw [h1] at hw e
      rw [h2 w (by omega)] at ha
      have z := of_decide_eq_true ha
      subst z
      exact ⟨1, (show (1:Nat) < 2 ^ 1 by decide), (show auW 1 1 false (fun _ => 0) 1 1 = true by decide), e⟩

