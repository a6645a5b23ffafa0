/-! ways through a part: which test was passed last (and one more) -/
def auG (fi : Nat) (nx : Nat → Nat) (w : Nat) : Nat → Option Nat
  | 0 => some 0
  | k + 1 => match auG fi nx w k with
    | none => none
    | some t => if w / 2 ^ k % 2 = 1 then (if (if t = 0 then fi else nx (t - 1)) / 2 ^ k % 2 = 1 then some (k + 1) else none) else some t
def auW (fi la : Nat) (no : Bool) (nx : Nat → Nat) (n w : Nat) : Bool := match auG fi nx w n with
  | none => false
  | some 0 => no
  | some (t + 1) => decide (la / 2 ^ t % 2 = 1)
def auA (y : pA) (w : Nat) : Bool := auW y.2.1 y.2.2.1 y.2.2.2.2.1 y.2.2.2.2.2.1 y.1 w
theorem auG_congr {fi : Nat} {nx : Nat → Nat} {w v : Nat} : ∀ {k : Nat}, (∀ j, j < k → w / 2 ^ j % 2 = v / 2 ^ j % 2) → auG fi nx w k = auG fi nx v k
  | 0, _ => rfl
  | k + 1, h => by rw [auG, auG, auG_congr (fun j hj => h j (by omega)), h k (by omega)]
theorem auG_zero {fi : Nat} {nx : Nat → Nat} {w t : Nat} : ∀ {k : Nat}, (∀ j, t ≤ j → j < t + k → w / 2 ^ j % 2 = 0) → auG fi nx w (t + k) = auG fi nx w t
  | 0, _ => rfl
  | k + 1, h => by
    rw [← Nat.add_assoc, auG, auG_zero (fun j a b => h j a (by omega))]
    split
    · rename_i e; exact e.symm
    · rename_i e
      rw [if_neg (by rw [h _ (by omega) (by omega)]; decide)]; exact e.symm
theorem auG_le {fi : Nat} {nx : Nat → Nat} {w : Nat} : ∀ {k t : Nat}, auG fi nx w k = some t → t ≤ k ∧ (∀ j, t ≤ j → j < k → w / 2 ^ j % 2 = 0) ∧ (0 < t → w / 2 ^ (t - 1) % 2 = 1)
  | 0, t, h => by rw [auG] at h; cases h; exact ⟨Nat.le_refl _, fun j a b => absurd b (Nat.not_lt_zero _), fun a => absurd a (Nat.lt_irrefl _)⟩
  | k + 1, t, h => by
    rw [auG] at h
    split at h
    · cases h
    · rename_i t0 e
      obtain ⟨a, b, c⟩ := auG_le e
      by_cases d : w / 2 ^ k % 2 = 1
      · rw [if_pos d] at h
        by_cases d2 : (if t0 = 0 then fi else nx (t0 - 1)) / 2 ^ k % 2 = 1
        · rw [if_pos d2] at h
          cases h
          exact ⟨Nat.le_refl _, fun j x y => absurd y (by omega), fun _ => d⟩
        · rw [if_neg d2] at h; cases h
      · rw [if_neg d] at h
        cases h
        refine ⟨by omega, fun j x y => ?_, c⟩
        by_cases z : j = k
        · subst z; omega
        · exact b j x (by omega)
theorem auG_at {fi : Nat} {nx : Nat → Nat} {w k t : Nat} (h : auG fi nx w k = some t) : auG fi nx w t = some t := by
  obtain ⟨a, b, _⟩ := auG_le h
  have := auG_zero (fi := fi) (nx := nx) (w := w) (t := t) (k := k - t) (fun j x y => b j x (by omega))
  rw [show t + (k - t) = k by omega, h] at this
  exact this.symm
theorem pk_at {c : Nat → cT} {fi : Nat} {nx : Nat → Nat} {w k t : Nat} (h : auG fi nx w k = some t) : pkL c w k = pkL c w t := by
  obtain ⟨a, b, _⟩ := auG_le h
  have := pkL_zero (c := c) (w := w) (t := t) (k := k - t) (fun j x y => b j x (by omega))
  rw [show t + (k - t) = k by omega] at this
  exact this
theorem bit_mod {q t k : Nat} (h : k < t) : q % 2 ^ t / 2 ^ k % 2 = q / 2 ^ k % 2 := by
  have h1 := Nat.testBit_mod_two_pow q t k
  rw [decide_eq_true h, Bool.true_and] at h1
  have e : ∀ x : Nat, x.testBit k = decide (x / 2 ^ k % 2 = 1) := fun x => Nat.testBit_eq_decide_div_mod_eq
  rw [e, e] at h1
  have := decide_eq_decide.mp h1
  omega
theorem bit_lt {q t k : Nat} (h : q < 2 ^ t) (hk : t ≤ k) : q / 2 ^ k % 2 = 0 := by
  rw [Nat.div_eq_of_lt (Nat.lt_of_lt_of_le h (Nat.pow_le_pow_right (by decide) hk))]
theorem bit_add {q i k : Nat} (h : k < i) : (q + 2 ^ i) / 2 ^ k % 2 = q / 2 ^ k % 2 := by
  have h1 := Nat.testBit_two_pow_add_gt h q
  have e : ∀ x : Nat, x.testBit k = decide (x / 2 ^ k % 2 = 1) := fun x => Nat.testBit_eq_decide_div_mod_eq
  rw [e, e] at h1
  have := decide_eq_decide.mp h1
  rw [Nat.add_comm] 
  omega
theorem bit_top {q i : Nat} (h : q < 2 ^ i) : (q + 2 ^ i) / 2 ^ i % 2 = 1 := by
  rw [Nat.add_div_right _ (Nat.two_pow_pos i), Nat.div_eq_of_lt h]
theorem wdec {u t : Nat} (h : t < 16) : (u * 2 ^ 4 ||| t) / 2 ^ 4 = u ∧ (u * 2 ^ 4 ||| t) &&& 15 = t := by
  have e : u * 2 ^ 4 ||| t = 2 ^ 4 * u + t := by
    rw [Nat.mul_comm, Nat.two_pow_add_eq_or_of_lt (i := 4) (by omega)]
  rw [e, show (15 : Nat) = 2 ^ 4 - 1 from rfl, Nat.and_two_pow_sub_one_eq_mod]
  constructor <;> omega
/-- settings of labels, of which some are kept -/
theorem mk_ex {lab : Nat → Nat} {rs : Nat} (hr : mskF rs) (h : ∀ z, z < 3 → lab z ≤ 63) : ∃ u, u < 262144 ∧ ∀ z, z < 3 → fdS u z = lab z &&& fdS rs z := by
  refine ⟨(lab 0 + lab 1 * 64 + lab 2 * 4096) &&& rs, Nat.lt_of_le_of_lt Nat.and_le_right hr.1, fun z hz => ?_⟩
  rw [fdS_and]
  congr 1
  have h0 := h 0 (by decide); have h1 := h 1 (by decide); have h2 := h 2 (by decide)
  rw [fdS_mod]
  rcases (show z = 0 ∨ z = 1 ∨ z = 2 by omega) with e | e | e <;> subst e <;> simp only [Nat.reduceMul, Nat.reducePow] <;> omega
/-- what the class's part and the reference's rows have to do with each other -/
def wkR (g : mS) (y : pA) (T : Nat → tC3) (c : Nat → cT) : Prop := (∀ j, j < y.1 → tRl (T (y.2.2.2.2.2.2 j)) (c j)) ∧ mskF y.2.2.2.1 ∧ (∀ j, j < y.1 → ∀ k, k < 9 → (T (y.2.2.2.2.2.2 j)).2.1 / 2 ^ k % 2 = 1 → fdS y.2.2.2.1 (k % 3) = 63) ∧ (∀ j, j < y.1 → ∀ i, i ≤ j → y.2.2.2.2.2.1 j / 2 ^ i % 2 = 0) ∧ wfA y
/-- a way that has passed test i last, behind L tokens -/
def wyQ (g : mS) (y : pA) (c : Nat → cT) (s pl L i v : Nat) : Prop := ∃ q lab u, auG y.2.1 y.2.2.2.2.2.1 q (i + 1) = some (i + 1) ∧ grn g s 1000 (pkL c q (i + 1)) pl (fun _ => 0) = some (pl + L, lab) ∧ u < 262144 ∧ (∀ z, z < 3 → fdS u z = lab z &&& fdS y.2.2.2.1 z) ∧ v = u * 2 ^ 4 ||| (i + 1)
def wyP (g : mS) (y : pA) (c : Nat → cT) (s pl L v : Nat) : Prop := ∃ q t lab u, t ≤ y.1 ∧ auG y.2.1 y.2.2.2.2.2.1 q t = some t ∧ grn g s 1000 (pkL c q t) pl (fun _ => 0) = some (pl + L, lab) ∧ u < 262144 ∧ (∀ z, z < 3 → fdS u z = lab z &&& fdS y.2.2.2.1 z) ∧ v = u * 2 ^ 4 ||| t
theorem pk_ne {c : Nat → cT} {fi : Nat} {nx : Nat → Nat} {q t : Nat} (h : auG fi nx q t = some t) (ht : 0 < t) : 0 < (pkL c q t).length := by
  obtain ⟨_, _, b⟩ := auG_le h
  obtain ⟨i, rfl⟩ : ∃ i, t = i + 1 := ⟨t - 1, by omega⟩
  have b1 : q / 2 ^ i % 2 = 1 := b ht
  rw [pkL, if_pos b1, List.length_append]
  exact Nat.lt_of_lt_of_le Nat.one_pos (Nat.le_add_left _ _)
theorem and_idem {x r : Nat} : (x &&& r) &&& r = x &&& r := by rw [Nat.and_assoc, Nat.and_self]
theorem wyP_0 {g : mS} {y : pA} {c : Nat → cT} {s pl v : Nat} : v ∈ [0] ↔ wyP g y c s pl 0 v := by
  rw [List.mem_singleton]
  constructor
  · intro h
    refine ⟨0, 0, fun _ => 0, 0, Nat.zero_le _, rfl, rfl, by decide, fun z _ => ?_, h⟩
    rw [Nat.zero_and]; unfold fdS; rw [Nat.zero_div]; rfl
  · rintro ⟨q, t, lab, u, h1, h2, h3, h4, h5, h6⟩
    have h7 := grn_len h3
    have h8 : (pkL c q t).length = 0 := by
      replace h7 : pl + 0 = pl + (pkL c q t).length := h7
      omega
    have ht : t = 0 := by
      rcases Nat.eq_zero_or_pos t with e | e
      · exact e
      · have := pk_ne (c := c) h2 e; omega
    subst ht
    rw [show pkL c q 0 = [] from rfl, grn] at h3
    cases h3
    have hu : u = 0 := fdS_ext h4 (by decide) (fun z hz => by
      rw [h5 z hz, Nat.zero_and]; unfold fdS; rw [Nat.zero_div]; rfl)
    rw [h6, hu]; rfl
theorem ad1_iff {g : mS} {y : pA} {c3 : tC3} {s p i w v : Nat} : ad1 g y c3 s p i w = some v ↔ (nxF y.2.1 y.2.2.2.2.2.1 w / 2 ^ i % 2 = 1 ∧ allTo (saF g c3.2.1 (w / 2 ^ 4) s p) 9 = true) ∧ v = (sbF c3.2.2 (w / 2 ^ 4) p 3 &&& y.2.2.2.1) * 2 ^ 4 ||| (i + 1) := by
  unfold ad1
  constructor
  · intro h
    split at h
    · cases h; exact ⟨by assumption, rfl⟩
    · cases h
  · rintro ⟨h, e⟩
    rw [if_pos h, e]
/-- one step of the ways through one test -/
theorem wy_step {g : mS} (I : mInv g) {y : pA} {T : Nat → tC3} {c : Nat → cT} (R : wkR g y T c) {s pl L i v : Nat} {V : List Nat} (hs : s < 2) (hL : pl + L < 40) (hi : i < y.1) (hV : ∀ w, w ∈ V ↔ wyP g y c s pl L w) : (psG g y T s (pl + L) i = true ∧ v ∈ adR (ad1 g y (T (y.2.2.2.2.2.2 i)) s (pl + L) i) (fun j => V.getD j 0) V.length) ↔ wyQ g y c s pl (L + 1) i v := by
  obtain ⟨R1, R2, R3, R4, R5⟩ := R
  have hmv : ∀ k, k < 3 → mVal g s (pl + L) k < 100 := fun k hk => I.2.1 _ (by omega)
  have hmem : (v ∈ adR (ad1 g y (T (y.2.2.2.2.2.2 i)) s (pl + L) i) (fun j => V.getD j 0) V.length) ↔ ∃ w, w ∈ V ∧ ad1 g y (T (y.2.2.2.2.2.2 i)) s (pl + L) i w = some v := by
    rw [adR_mem]
    constructor
    · rintro ⟨j, h1, h2⟩; exact ⟨_, getD_mem h1, h2⟩
    · rintro ⟨w, h1, h2⟩
      obtain ⟨j, h3, h4⟩ := mem_getD h1
      exact ⟨j, h3, by rw [h4]; exact h2⟩
  -- the labels' fields, and the test, for settings u of labels lab
  have key : ∀ (lab : Nat → Nat) (u : Nat), (∀ z, lab z ≤ pl + L) → (∀ z, z < 3 → fdS u z = lab z &&& fdS y.2.2.2.1 z) → (psG g y T s (pl + L) i && allTo (saF g (T (y.2.2.2.2.2.2 i)).2.1 u s (pl + L)) 9) = cMat g (c i) s (pl + L) lab := fun lab u hlab hu =>
    mt_eq (R1 i hi) hmv (fun k hk hb => by
      rw [hu _ (by omega), R3 i hi k hk hb]
      exact and63 (by have := hlab (k % 3); omega))
  have fld : ∀ (lab : Nat → Nat) (u z : Nat), z < 3 → (∀ z, z < 3 → fdS u z = lab z &&& fdS y.2.2.2.1 z) → fdS (sbF (T (y.2.2.2.2.2.2 i)).2.2 u (pl + L) 3 &&& y.2.2.2.1) z = (if (c i).2.2.1 / 2 ^ z % 2 = 1 then pl + L + 1 else lab z) &&& fdS y.2.2.2.1 z := fun lab u z hz hu => by
    rw [fdS_and, fdS_sbF hz (by omega) 3 (Nat.le_refl _), (R1 i hi).1]
    by_cases b : (c i).2.2.1 / 2 ^ z % 2 = 1
    · rw [if_pos ⟨hz, b⟩, if_pos b]
    · rw [if_neg (fun q => b q.2), if_neg b, hu z hz, and_idem]
  rw [hmem]
  constructor
  · rintro ⟨h1, w, hw, h2⟩
    obtain ⟨q, t, lab, u, a1, a2, a3, a4, a5, a6⟩ := (hV w).mp hw
    obtain ⟨⟨b1, b2⟩, b3⟩ := ad1_iff.mp h2
    have ht8 : t ≤ 8 := Nat.le_trans a1 R5.1.2
    obtain ⟨d1, d2⟩ := wdec (u := u) (t := t) (by omega)
    rw [← a6] at d1 d2
    rw [d1] at b2 b3
    have hlab : ∀ z, lab z ≤ pl + L := grn_lab a3 (fun z => Nat.zero_le _)
    have hm : cMat g (c i) s (pl + L) lab = true := by rw [← key lab u hlab a5, h1, b2]; rfl
    have hti : t ≤ i := by
      unfold nxF at b1
      rw [d2] at b1
      rcases Nat.lt_or_ge i t with z | z
      · rw [if_neg (by omega)] at b1
        have := R4 (t - 1) (by omega) i (by omega)
        omega
      · exact z
    have hq : q % 2 ^ t < 2 ^ i := Nat.lt_of_lt_of_le (Nat.mod_lt _ (Nat.two_pow_pos t)) (Nat.pow_le_pow_right (by decide) hti)
    have bits : ∀ j, j < t → (q % 2 ^ t + 2 ^ i) / 2 ^ j % 2 = q / 2 ^ j % 2 := fun j hj => by rw [bit_add (by omega), bit_mod hj]
    have zer : ∀ j, t ≤ j → j < t + (i - t) → (q % 2 ^ t + 2 ^ i) / 2 ^ j % 2 = 0 := fun j h3 h4 => by
      rw [bit_add (by omega)]; exact bit_lt (Nat.mod_lt _ (Nat.two_pow_pos t)) h3
    have hG : auG y.2.1 y.2.2.2.2.2.1 (q % 2 ^ t + 2 ^ i) i = some t := by
      have := auG_zero (fi := y.2.1) (nx := y.2.2.2.2.2.1) zer
      rw [show t + (i - t) = i by omega] at this
      rw [this, auG_congr bits, a2]
    have hP : pkL c (q % 2 ^ t + 2 ^ i) i = pkL c q t := by
      have := pkL_zero (c := c) zer
      rw [show t + (i - t) = i by omega] at this
      rw [this]; exact pkL_congr (fun j hj => ⟨rfl, bits j hj⟩)
    refine ⟨q % 2 ^ t + 2 ^ i, fun z => if (c i).2.2.1 / 2 ^ z % 2 = 1 then pl + L + 1 else lab z, sbF (T (y.2.2.2.2.2.2 i)).2.2 u (pl + L) 3 &&& y.2.2.2.1, ?_, ?_, Nat.lt_of_le_of_lt Nat.and_le_right R2.1, fun z hz => fld lab u z hz a5, b3⟩
    · rw [auG, hG]
      show (if _ then _ else _) = _
      rw [if_pos (bit_top hq), if_pos]
      unfold nxF at b1
      rw [d2] at b1; exact b1
    · rw [pkL, if_pos (bit_top hq), hP, grn_app, a3]
      show grn g s 1000 [c i] (pl + L) lab = _
      rw [grn, if_neg (by rw [hm]; intro z; rcases z with z | z; omega; cases z), grn]; rfl
  · rintro ⟨q, lab', u', h1, h2, h3, h4, h5⟩
    have hb := (auG_le h1).2.2 (by omega)
    rw [Nat.add_sub_cancel] at hb
    rw [auG] at h1
    cases e : auG y.2.1 y.2.2.2.2.2.1 q i with
    | none => rw [e] at h1; cases h1
    | some t =>
      rw [e] at h1
      replace h1 : (if q / 2 ^ i % 2 = 1 then (if (if t = 0 then y.2.1 else y.2.2.2.2.2.1 (t - 1)) / 2 ^ i % 2 = 1 then some (i + 1) else none) else some t) = some (i + 1) := h1
      rw [if_pos hb] at h1
      have hall : (if t = 0 then y.2.1 else y.2.2.2.2.2.1 (t - 1)) / 2 ^ i % 2 = 1 := by
        refine Classical.byContradiction fun z => ?_
        rw [if_neg z] at h1; cases h1
      have hti := (auG_le e).1
      rw [pkL, if_pos hb, grn_app, pk_at e] at h2
      cases e2 : grn g s 1000 (pkL c q t) pl (fun _ => 0) with
      | none => rw [e2] at h2; cases h2
      | some r =>
        obtain ⟨pl1, lab⟩ := r
        rw [e2] at h2
        replace h2 : grn g s 1000 [c i] pl1 lab = some (pl + (L + 1), lab') := h2
        have h6 := grn_len h2
        replace h6 : pl + (L + 1) = pl1 + 1 := h6
        have hpl : pl1 = pl + L := by omega
        subst hpl
        rw [grn] at h2
        split at h2
        · cases h2
        · rename_i d
          have hm : cMat g (c i) s (pl + L) lab = true := by
            cases z : cMat g (c i) s (pl + L) lab with
            | true => rfl
            | false => exact absurd (Or.inr z) d
          rw [grn] at h2
          have hlab' : (fun z => if (c i).2.2.1 / 2 ^ z % 2 = 1 then pl + L + 1 else lab z) = lab' := congrArg Prod.snd (Option.some.inj h2)
          have hlab : ∀ z, lab z ≤ pl + L := grn_lab e2 (fun z => Nat.zero_le _)
          obtain ⟨u, hu1, hu2⟩ := mk_ex (lab := lab) R2 (fun z _ => by have := hlab z; omega)
          have hk := key lab u hlab hu2
          rw [hm, Bool.and_eq_true] at hk
          have ht8 : t ≤ 8 := by have := R5.1.2; omega
          obtain ⟨d1, d2⟩ := wdec (u := u) (t := t) (by omega)
          refine ⟨hk.1, u * 2 ^ 4 ||| t, (hV _).mpr ⟨q, t, lab, u, by omega, auG_at e, e2, hu1, hu2, rfl⟩, ad1_iff.mpr ⟨⟨?_, by rw [d1]; exact hk.2⟩, ?_⟩⟩
          · unfold nxF; rw [d2]; exact hall
          · rw [d1, h5, fdS_ext h3 (Nat.lt_of_le_of_lt Nat.and_le_right R2.1) (fun z hz => ?_)]
            rw [h4 z hz, fld lab u z hz hu2, ← hlab']
theorem wyP_succ {g : mS} {y : pA} {c : Nat → cT} {s pl L v : Nat} : wyP g y c s pl (L + 1) v ↔ ∃ i, i < y.1 ∧ wyQ g y c s pl (L + 1) i v := by
  constructor
  · rintro ⟨q, t, lab, u, h1, h2, h3, h4⟩
    have h7 := grn_len h3
    replace h7 : pl + (L + 1) = pl + (pkL c q t).length := h7
    rcases Nat.eq_zero_or_pos t with e | e
    · subst e; rw [show pkL c q 0 = [] from rfl] at h7; replace h7 : pl + (L + 1) = pl + 0 := h7; omega
    · obtain ⟨i, rfl⟩ : ∃ i, t = i + 1 := ⟨t - 1, by omega⟩
      exact ⟨i, by omega, q, lab, u, h2, h3, h4⟩
  · rintro ⟨i, hi, q, lab, u, h2, h3, h4⟩
    exact ⟨q, i + 1, lab, u, by omega, h2, h3, h4⟩
theorem psV_mem {g : mS} {y : pA} {T : Nat → tC3} {s p v : Nat} {V : List Nat} : v ∈ psV g y T s p V ↔ ∃ i, i < y.1 ∧ psG g y T s p i = true ∧ v ∈ adR (ad1 g y (T (y.2.2.2.2.2.2 i)) s p i) (fun j => V.getD j 0) V.length := psL_mem
/-- the walker's ways are just the ways through the pattern -/
theorem wy_iff {g : mS} (I : mInv g) {y : pA} {T : Nat → tC3} {c : Nat → cT} (R : wkR g y T c) {s pl : Nat} (hs : s < 2) : ∀ L, pl + L ≤ 40 → ∀ v, v ∈ wyL g y T s pl L ↔ wyP g y c s pl L v
  | 0, _, v => wyP_0
  | L + 1, h, v => by
    rw [wyL, psV_mem, wyP_succ]
    constructor
    · rintro ⟨i, hi, q⟩
      exact ⟨i, hi, (wy_step I R hs (by omega) hi (wy_iff I R hs L (by omega))).mp q⟩
    · rintro ⟨i, hi, q⟩
      exact ⟨i, hi, (wy_step I R hs (by omega) hi (wy_iff I R hs L (by omega))).mpr q⟩
/-- which rows of tests a part stands for -/
def lgC (y : pA) (c : Nat → cT) (l : List cT) : Prop := ∃ w, w < 2 ^ y.1 ∧ auA y w = true ∧ l = pkL c w y.1
theorem whL_iff {g : mS} {y : pA} {T : Nat → tC3} {s p kc : Nat} {wv : Nat → Nat} : ∀ {n : Nat}, whL g y T s p wv kc n = true ↔ ∃ i, i < n ∧ (psG g y T s p i = true ∧ ∃ v, v ∈ adR (ad1 g y (T (y.2.2.2.2.2.2 i)) s p i) wv kc) ∧ y.2.2.1 / 2 ^ i % 2 = 1
  | 0 => ⟨fun h => (by cases h), fun ⟨j, h, _⟩ => absurd h (Nat.not_lt_zero _)⟩
  | n + 1 => by
    rw [whL, Bool.or_eq_true, Bool.and_eq_true, Bool.and_eq_true, decide_eq_true_eq, decide_eq_true_eq, whL_iff]
    constructor
    · rintro (⟨i, h1, h2⟩ | ⟨h1, h2, h3⟩)
      · exact ⟨i, by omega, h2⟩
      · exact ⟨n, by omega, ⟨h1, _, getD_mem h2⟩, h3⟩
    · rintro ⟨i, h1, ⟨h2, v, h3⟩, h4⟩
      by_cases e : i = n
      · subst e; exact Or.inr ⟨h2, List.length_pos_of_mem h3, h4⟩
      · exact Or.inl ⟨i, by omega, ⟨h2, v, h3⟩, h4⟩
theorem auA_some {y : pA} {w : Nat} (h : auA y w = true) : (auG y.2.1 y.2.2.2.2.2.1 w y.1 = some 0 ∧ y.2.2.2.2.1 = true) ∨ ∃ i, auG y.2.1 y.2.2.2.2.2.1 w y.1 = some (i + 1) ∧ y.2.2.1 / 2 ^ i % 2 = 1 := by
  unfold auA auW at h
  split at h
  · cases h
  · exact Or.inl ⟨by assumption, h⟩
  · exact Or.inr ⟨_, by assumption, of_decide_eq_true h⟩
theorem wh_iff {g : mS} (I : mInv g) {y : pA} {T : Nat → tC3} {c : Nat → cT} (R : wkR g y T c) {s pl L : Nat} (hs : s < 2) (hL : pl + L < 40) : whV g y T s (pl + L) (wyL g y T s pl L) = true ↔ ∃ l lab, lgC y c l ∧ grn g s 1000 l pl (fun _ => 0) = some (pl + (L + 1), lab) := by
  unfold whV
  rw [whL_iff]
  constructor
  · rintro ⟨i, hi, ⟨h1, v, h2⟩, h3⟩
    obtain ⟨q, lab, u, a1, a2, _⟩ := (wy_step I R hs hL hi (wy_iff I R hs L (by omega))).mp ⟨h1, h2⟩
    have hw : q % 2 ^ (i + 1) < 2 ^ (i + 1) := Nat.mod_lt _ (Nat.two_pow_pos _)
    have zer : ∀ j, i + 1 ≤ j → j < i + 1 + (y.1 - (i + 1)) → q % 2 ^ (i + 1) / 2 ^ j % 2 = 0 := fun j h4 _ => bit_lt hw h4
    have e1 := auG_zero (fi := y.2.1) (nx := y.2.2.2.2.2.1) zer
    have e2 := pkL_zero (c := c) zer
    rw [show i + 1 + (y.1 - (i + 1)) = y.1 by omega] at e1 e2
    rw [auG_congr (v := q) (fun j hj => bit_mod hj), a1] at e1
    rw [pkL_congr (d := c) (v := q) (fun j hj => ⟨rfl, bit_mod hj⟩)] at e2
    refine ⟨pkL c q (i + 1), lab, ⟨q % 2 ^ (i + 1), Nat.lt_of_lt_of_le hw (Nat.pow_le_pow_right (by decide) hi), ?_, e2.symm⟩, a2⟩
    unfold auA auW
    rw [e1]; exact decide_eq_true h3
  · rintro ⟨l, lab, ⟨w, hw, ha, rfl⟩, h⟩
    have h7 := grn_len h
    replace h7 : pl + (L + 1) = pl + (pkL c w y.1).length := h7
    rcases auA_some ha with ⟨e, _⟩ | ⟨i, e, hl⟩
    · rw [pk_at e] at h7; replace h7 : pl + (L + 1) = pl + 0 := h7; omega
    · have hi := (auG_le e).1
      rw [pk_at e] at h
      have hlab : ∀ z, lab z ≤ pl + (L + 1) := grn_lab h (fun z => Nat.zero_le _)
      obtain ⟨u, hu1, hu2⟩ := mk_ex (lab := lab) R.2.1 (fun z _ => by have := hlab z; omega)
      have := (wy_step I R hs hL (show i < y.1 by omega) (wy_iff I R hs L (by omega))).mpr ⟨w, lab, u, auG_at e, h, hu1, hu2, rfl⟩
      exact ⟨i, by omega, ⟨this.1, _, this.2⟩, hl⟩

