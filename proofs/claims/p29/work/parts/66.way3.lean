/-! the walker's match is the reference's -/
def lgM (g : mS) (p : Nat) (l : List cT) : Prop := ∃ w, w < 2 ^ mN g 8 p ∧ mB g 10 (256 * p + w) = true ∧ l = pkL (fun j => tcM g (8 * p + j)) w (mN g 8 p)
theorem loS_spec {W : Nat → Bool} {f : Nat → Nat} {L : Bool} : ∀ n, (loS W f L n = 0 ∧ ∀ w, w < n → w ≠ 0 → W w = true → f w = 0) ∨ (0 < loS W f L n ∧ (∃ w, w < n ∧ w ≠ 0 ∧ W w = true ∧ f w = loS W f L n) ∧ ∀ w, w < n → w ≠ 0 → W w = true → 0 < f w → if L = true then f w ≤ loS W f L n else loS W f L n ≤ f w)
  | 0 => Or.inl ⟨rfl, fun w h => absurd h (Nat.not_lt_zero _)⟩
  | n + 1 => by
    have i := loS_spec (W := W) (f := f) (L := L) n
    rw [loS]
    by_cases c : n ≠ 0 ∧ W n = true ∧ 0 < f n ∧ (loS W f L n = 0 ∨ (if L = true then loS W f L n < f n else f n < loS W f L n))
    · rw [if_pos c]
      obtain ⟨c1, c2, c3, c4⟩ := c
      refine Or.inr ⟨c3, ⟨n, by omega, c1, c2, rfl⟩, fun w hw h0 hW hf => ?_⟩
      by_cases e : w = n
      · subst e; split <;> exact Nat.le_refl _
      · rcases i with ⟨i1, i2⟩ | ⟨i1, i2, i3⟩
        · have := i2 w (by omega) h0 hW; omega
        · have h3 := i3 w (by omega) h0 hW hf
          cases L with
          | true =>
            rw [if_pos rfl] at h3 c4 ⊢
            omega
          | false =>
            rw [if_neg (by decide)] at h3 c4 ⊢
            omega
    · rw [if_neg c]
      rcases i with ⟨i1, i2⟩ | ⟨i1, i2, i3⟩
      · refine Or.inl ⟨i1, fun w hw h0 hW => ?_⟩
        by_cases e : w = n
        · subst e
          rcases Nat.eq_zero_or_pos (f w) with z | z
          · exact z
          · exact absurd ⟨h0, hW, z, Or.inl i1⟩ c
        · exact i2 w (by omega) h0 hW
      · refine Or.inr ⟨i1, ?_, fun w hw h0 hW hf => ?_⟩
        · obtain ⟨w, h1, h2⟩ := i2
          exact ⟨w, by omega, h2⟩
        · by_cases e : w = n
          · subst e
            cases L with
            | true =>
              rw [if_pos rfl]
              refine Nat.le_of_not_lt fun z => c ⟨h0, hW, hf, Or.inr ?_⟩
              rw [if_pos rfl]; exact z
            | false =>
              rw [if_neg (by decide)]
              refine Nat.le_of_not_lt fun z => c ⟨h0, hW, hf, Or.inr ?_⟩
              rw [if_neg (by decide)]; exact z
          · exact i3 w (by omega) h0 hW hf
theorem adR_nil {a : Nat → Option Nat} {wv : Nat → Nat} : adR a wv 0 = [] := rfl
theorem psV_nil {g : mS} {y : pA} {T : Nat → tC3} {s p : Nat} : psV g y T s p [] = [] := by
  unfold psV
  have : ∀ n, psL g y T s p (fun j => ([] : List Nat).getD j 0) ([] : List Nat).length n = [] := fun n => by
    induction n with
    | zero => rfl
    | succ n ih => rw [psL, ih]; split <;> rfl
  exact this _
theorem whV_nil {g : mS} {y : pA} {T : Nat → tC3} {s p : Nat} : whV g y T s p [] = false := by
  cases e : whV g y T s p [] with
  | false => rfl
  | true =>
    obtain ⟨i, _, ⟨_, v, h⟩, _⟩ := whL_iff.mp e
    cases h
theorem wyL_nil {g : mS} {y : pA} {T : Nat → tC3} {s pl L : Nat} (h : wyL g y T s pl L = []) : ∀ j, wyL g y T s pl (L + j) = []
  | 0 => h
  | j + 1 => by rw [← Nat.add_assoc, wyL, wyL_nil h j]; exact psV_nil
/-- a row of r tokens is matched within the bound -/
def lfC (g : mS) (y : pA) (T : Nat → tC3) (s pl bd r : Nat) : Prop := 1 ≤ r ∧ r ≤ 8 ∧ whV g y T s (pl + (r - 1)) (wyL g y T s pl (r - 1)) = true ∧ ∀ j, j < r → inW g s pl (pl + j) bd = true
theorem lfA_spec {g : mS} {y : pA} {T : Nat → tC3} {s pl bd : Nat} {Lg : Bool} : ∀ (f L best : Nat), L + f = 8 → (∀ j, j < L → inW g s pl (pl + j) bd = true) → (lfA g y T s pl bd Lg f L best = best ∧ ∀ r, L < r → ¬ lfC g y T s pl bd r) ∨ (L < lfA g y T s pl bd Lg f L best ∧ lfC g y T s pl bd (lfA g y T s pl bd Lg f L best) ∧ ∀ r, L < r → lfC g y T s pl bd r → if Lg = true then r ≤ lfA g y T s pl bd Lg f L best else lfA g y T s pl bd Lg f L best ≤ r)
  | 0, L, best, h, _ => Or.inl ⟨rfl, fun r hr c => by have := c.2.1; omega⟩
  | f + 1, L, best, h, hj => by
    rw [lfA]
    by_cases c : (wyL g y T s pl L).length = 0 ∨ inW g s pl (pl + L) bd = false
    · rw [if_pos c]
      refine Or.inl ⟨rfl, fun r hr q => ?_⟩
      rcases c with c | c
      · have e := wyL_nil (List.eq_nil_of_length_eq_zero c) (r - 1 - L)
        rw [show L + (r - 1 - L) = r - 1 by omega] at e
        have := q.2.2.1
        rw [e, whV_nil] at this; cases this
      · have := q.2.2.2 L hr
        rw [c] at this; cases this
    · rw [if_neg c]
      have hin : inW g s pl (pl + L) bd = true := by
        cases z : inW g s pl (pl + L) bd with
        | true => rfl
        | false => exact absurd (Or.inr z) c
      have hj' : ∀ j, j < L + 1 → inW g s pl (pl + j) bd = true := fun j q => by
        by_cases e : j = L
        · subst e; exact hin
        · exact hj j (by omega)
      by_cases w : whV g y T s (pl + L) (wyL g y T s pl L) = true
      · rw [if_pos w]
        have hC : lfC g y T s pl bd (L + 1) := ⟨by omega, by omega, w, hj'⟩
        cases Lg with
        | false =>
          rw [if_pos rfl]
          refine Or.inr ⟨Nat.lt_succ_self _, hC, fun r hr _ => ?_⟩
          rw [if_neg (by decide)]; exact hr
        | true =>
          rw [if_neg (by decide)]
          rcases lfA_spec (g := g) (y := y) (T := T) (s := s) (pl := pl) (bd := bd) (Lg := true) f (L + 1) (L + 1) (by omega) hj' with ⟨a, b⟩ | ⟨a, b, d⟩
          · rw [a]
            refine Or.inr ⟨Nat.lt_succ_self _, hC, fun r hr q => ?_⟩
            rw [if_pos rfl]
            exact Nat.le_of_not_lt fun z => b r z q
          · refine Or.inr ⟨by omega, b, fun r hr q => ?_⟩
            rw [if_pos rfl]
            by_cases e : r = L + 1
            · subst e; exact Nat.le_of_lt a
            · have := d r (by omega) q
              rw [if_pos rfl] at this; exact this
      · rw [if_neg w]
        have hn : ¬ lfC g y T s pl bd (L + 1) := fun q => w q.2.2.1
        rcases lfA_spec (g := g) (y := y) (T := T) (s := s) (pl := pl) (bd := bd) (Lg := Lg) f (L + 1) best (by omega) hj' with ⟨a, b⟩ | ⟨a, b, d⟩
        · exact Or.inl ⟨a, fun r hr q => by
            by_cases e : r = L + 1
            · subst e; exact hn q
            · exact b r (by omega) q⟩
        · refine Or.inr ⟨by omega, b, fun r hr q => ?_⟩
          by_cases e : r = L + 1
          · subst e; exact absurd q hn
          · exact d r (by omega) q
/-- the place behind a bound -/
theorem eGo_spec {g : mS} {s p bd : Nat} : ∀ (f e : Nat), mN g 1 s < e + f → (∀ x, e ≤ x → x < eGo g s p bd f e → x < mN g 1 s ∧ inB g s p bd x = true) ∧ (mN g 1 s ≤ eGo g s p bd f e ∨ inB g s p bd (eGo g s p bd f e) = false)
  | 0, e, h => ⟨fun x a b => absurd a (by rw [eGo] at b; omega), Or.inl (by rw [eGo]; omega)⟩
  | f + 1, e, h => by
    rw [eGo]
    by_cases c : e < mN g 1 s ∧ inB g s p bd e = true
    · rw [if_pos c]
      obtain ⟨a, b⟩ := eGo_spec (g := g) (s := s) (p := p) (bd := bd) f (e + 1) (by omega)
      refine ⟨fun x h1 h2 => ?_, b⟩
      by_cases q : x = e
      · subst q; exact c
      · exact a x (by omega) h2
    · rw [if_neg c]
      refine ⟨fun x a b => absurd a (by omega), ?_⟩
      by_cases q : e < mN g 1 s
      · exact Or.inr (by
          cases z : inB g s p bd e with
          | false => rfl
          | true => exact absurd ⟨q, z⟩ c)
      · exact Or.inl (by omega)
theorem inW_B {g : mS} {s p x bd : Nat} (hb : bd < 3) : inW g s p x bd = (decide (x < mN g 1 s) && inB g s p bd x) := by
  unfold inW inB
  rcases (show bd = 0 ∨ bd = 1 ∨ bd = 2 by omega) with e | e | e <;> subst e
  · rfl
  · show (_ && (if (1:Nat) = 1 then _ else _)) = (_ && (decide ((1:Nat) = 0) || (if (1:Nat) = 1 then _ else _)))
    rw [if_pos rfl, if_pos rfl, decide_eq_false (show ¬ (1:Nat) = 0 by decide), Bool.false_or, decide_eq_decide.mpr (eq_comm (a := mN g 3 (40 * s + p)))]
  · show (_ && (if (2:Nat) = 1 then _ else if (2:Nat) = 2 then _ else _)) = (_ && (decide ((2:Nat) = 0) || (if (2:Nat) = 1 then _ else _)))
    rw [if_neg (by decide), if_pos rfl, if_neg (by decide), decide_eq_false (show ¬ (2:Nat) = 0 by decide), Bool.false_or, decide_eq_decide.mpr (eq_comm (a := mN g 4 (40 * s + p)))]
theorem inB_self {g : mS} {s p bd : Nat} : inB g s p bd p = true := by
  unfold inB
  rw [decide_eq_true rfl, decide_eq_true rfl]
  cases decide (bd = 0) <;> (split <;> rfl)
theorem inW_all {g : mS} (I : mInv g) {s pl bd r : Nat} (hs : s < 2) (hp : pl < mN g 1 s) (hb : bd < 3) (hr : 1 ≤ r) : (∀ j, j < r → inW g s pl (pl + j) bd = true) ↔ pl + r ≤ eOf g s pl bd := by
  have hm := I.1 s hs
  obtain ⟨a, b⟩ := eGo_spec (g := g) (s := s) (p := pl) (bd := bd) 41 (pl + 1) (by omega)
  have h1 := eGo_ge (S := g) (s := s) (p := pl) (bd := bd) 41 (pl + 1)
  have h2 := eGo_le (S := g) (s := s) (p := pl) (bd := bd) 41 (pl + 1) (by omega)
  unfold eOf
  constructor
  · intro h
    refine Nat.le_of_not_lt fun z => ?_
    have q := h (eGo g s pl bd 41 (pl + 1) - pl) (by omega)
    rw [show pl + (eGo g s pl bd 41 (pl + 1) - pl) = eGo g s pl bd 41 (pl + 1) by omega, inW_B hb, Bool.and_eq_true, decide_eq_true_eq] at q
    rcases b with b | b
    · omega
    · rw [q.2] at b; cases b
  · intro h j hj
    rw [inW_B hb, Bool.and_eq_true, decide_eq_true_eq]
    by_cases e : j = 0
    · subst e; exact ⟨hp, inB_self⟩
    · exact a (pl + j) (by omega) (by omega)
theorem pkL_len {c : Nat → cT} {w : Nat} : ∀ k, (pkL c w k).length ≤ k
  | 0 => Nat.le_refl _
  | k + 1 => by
    have := pkL_len (c := c) (w := w) k
    rw [pkL]; split
    · rw [List.length_append]; exact Nat.add_le_add_right this 1
    · omega
theorem pkL_0 {c : Nat → cT} : ∀ k, pkL c 0 k = []
  | 0 => rfl
  | k + 1 => by rw [pkL, if_neg (by rw [Nat.zero_div]; decide), pkL_0 k]
theorem lfC_iff {g : mS} (I : mInv g) {y : pA} {T : Nat → tC3} {p s pl bd r : Nat} (hp : p < 21) (R : wkR g y T (fun j => tcM g (8 * p + j))) (hl : ∀ l, lgC y (fun j => tcM g (8 * p + j)) l ↔ lgM g p l) (hs : s < 2) (hpl : pl < mN g 1 s) (hb : bd < 3) : lfC g y T s pl bd r ↔ ∃ w, w < 2 ^ mN g 8 p ∧ w ≠ 0 ∧ mB g 10 (256 * p + w) = true ∧ goN g p w s pl (eOf g s pl bd) = r ∧ 0 < r := by
  have hm := I.1 s hs
  have he1 := eGo_ge (S := g) (s := s) (p := pl) (bd := bd) 41 (pl + 1)
  have he2 := eGo_le (S := g) (s := s) (p := pl) (bd := bd) 41 (pl + 1) (by omega)
  have he : pl ≤ eOf g s pl bd ∧ eOf g s pl bd ≤ 40 := by unfold eOf; omega
  constructor
  · rintro ⟨h1, h8, hw, hin⟩
    have hin' := (inW_all I hs hpl hb h1).mp hin
    obtain ⟨l, lab, a, b⟩ := (wh_iff I R hs (by omega)).mp hw
    rw [show r - 1 + 1 = r by omega] at b
    obtain ⟨w, w1, w2, w3⟩ := (hl l).mp a
    have hlen := grn_len b
    replace hlen : pl + r = pl + l.length := hlen
    rw [grn_end (e' := eOf g s pl bd) (by omega) (by omega), w3, ← goA_run I hs he.1 he.2] at b
    refine ⟨w, w1, fun z => ?_, w2, ?_, h1⟩
    · rw [w3, z, pkL_0] at hlen
      replace hlen : pl + r = pl + 0 := hlen
      omega
    · unfold goN
      rw [b]
      show pl + r - pl = r
      omega
  · rintro ⟨w, w1, w0, w2, w3, w4⟩
    unfold goN at w3
    cases e : goA g p w s pl (eOf g s pl bd) (mN g 8 p) with
    | none => rw [e] at w3; replace w3 : 0 = r := w3; omega
    | some q =>
      obtain ⟨pe, lab⟩ := q
      rw [e] at w3
      replace w3 : pe - pl = r := w3
      rw [goA_run I hs he.1 he.2] at e
      have hlen := grn_len e
      have hle := grn_le e he.1
      replace hlen : pe = pl + (pkL (fun j => tcM g (8 * p + j)) w (mN g 8 p)).length := hlen
      replace hle : pe ≤ eOf g s pl bd := hle
      have h8 := pkL_len (c := fun j => tcM g (8 * p + j)) (w := w) (mN g 8 p)
      have h9 := I.2.2.2.2.2.1 p hp
      rw [grn_end (e' := 1000) (by omega) (by omega), show pe = pl + r by omega] at e
      have hin := (inW_all I (r := r) hs hpl hb (by omega)).mpr (by omega)
      have hlt := inW_lt (hin (r - 1) (by omega))
      refine ⟨by omega, by omega, (wh_iff I R hs (by omega)).mpr ⟨_, lab, (hl _).mpr ⟨w, w1, w2, rfl⟩, ?_⟩, hin⟩
      rw [show r - 1 + 1 = r by omega]; exact e
/-- the walker's answer is the reference's -/
theorem lf_eq {g : mS} (I : mInv g) {y : pA} {T : Nat → tC3} {p s pl bd : Nat} {Lg : Bool} (hp : p < 21) (R : wkR g y T (fun j => tcM g (8 * p + j))) (hl : ∀ l, lgC y (fun j => tcM g (8 * p + j)) l ↔ lgM g p l) (hs : s < 2) (hpl : pl < mN g 1 s) (hb : bd < 3) : lfA g y T s pl bd Lg 8 0 0 = mLong g p s pl bd Lg := by
  have hC := fun r => lfC_iff (r := r) I hp R hl hs hpl hb
  unfold mLong mLoW
  rcases loS_spec (W := fun w => mB g 10 (256 * p + w)) (f := fun w => goN g p w s pl (eOf g s pl bd)) (L := Lg) (2 ^ mN g 8 p) with ⟨a, b⟩ | ⟨a, b, d⟩ <;> rcases lfA_spec (g := g) (y := y) (T := T) (s := s) (pl := pl) (bd := bd) (Lg := Lg) 8 0 0 rfl (fun j h => absurd h (Nat.not_lt_zero _)) with ⟨a', b'⟩ | ⟨a', b', d'⟩
  · rw [a, a']
  · obtain ⟨w, w1, w2, w3, w4, w5⟩ := (hC _).mp b'
    have := b w w1 w2 w3
    replace this : goN g p w s pl (eOf g s pl bd) = 0 := this
    omega
  · obtain ⟨w, w1, w2, w3, w4⟩ := b
    exact absurd ((hC _).mpr ⟨w, w1, w2, w3, w4, a⟩) (b' _ a)
  · obtain ⟨w, w1, w2, w3, w4⟩ := b
    have h1 := d' _ a ((hC _).mpr ⟨w, w1, w2, w3, w4, a⟩)
    obtain ⟨v, v1, v2, v3, v4, v5⟩ := (hC _).mp b'
    have h2 := d v v1 v2 v3 (by show 0 < goN g p v s pl (eOf g s pl bd); omega)
    replace h2 : if Lg = true then goN g p v s pl (eOf g s pl bd) ≤ loS (fun w => mB g 10 (256 * p + w)) (fun w => goN g p w s pl (eOf g s pl bd)) Lg (2 ^ mN g 8 p) else loS (fun w => mB g 10 (256 * p + w)) (fun w => goN g p w s pl (eOf g s pl bd)) Lg (2 ^ mN g 8 p) ≤ goN g p v s pl (eOf g s pl bd) := h2
    cases Lg with
    | true => rw [if_pos rfl] at h1 h2; omega
    | false => rw [if_neg (by decide)] at h1 h2; omega

