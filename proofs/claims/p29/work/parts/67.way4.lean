/-! the ways' bounds -/
theorem wy_ok {g : mS} (I : mInv g) {y : pA} {T : Nat → tC3} {c : Nat → cT} (R : wkR g y T c) {s pl L w : Nat} (hs : s < 2) (hL : pl + L ≤ 40) (hw : w ∈ wyL g y T s pl L) : okW y.1 w := by
  obtain ⟨q, t, lab, u, h1, h2, h3, h4, h5, h6⟩ := (wy_iff I R hs L hL w).mp hw
  have ht : t ≤ 8 := Nat.le_trans h1 R.2.2.2.2.1.2
  obtain ⟨d1, d2⟩ := wdec (u := u) (t := t) (by omega)
  rw [← h6] at d1 d2
  have hlab : ∀ z, lab z ≤ pl + L := grn_lab h3 (fun z => Nat.zero_le _)
  refine ⟨by rw [h6]; exact or_lt (n := 22) (by omega) (by omega), by omega, fun k hk => ?_⟩
  rw [d1, saX_f, h5 _ (by omega)]
  exact Nat.le_trans Nat.and_le_left (by have := hlab (k % 3); omega)
def pop8 (q : Nat) : Nat := sumTo (fun k => q / 2 ^ k % 2) 8
/-- how many below have as many bits -/
def rkP (L q : Nat) : Nat := sumTo (fun z => if pop8 z = L then 1 else 0) q
theorem rkP_70 : ∀ L, L ≤ 8 → rkP L 256 ≤ 70 := by decide +kernel
theorem sumTo_ge {f : Nat → Nat} {a : Nat} : ∀ j, sumTo f a ≤ sumTo f (a + j)
  | 0 => Nat.le_refl _
  | j + 1 => Nat.le_trans (sumTo_ge j) (by rw [← Nat.add_assoc, sumTo]; exact Nat.le_add_right _ _)
theorem rkP_lt {L q q' : Nat} (h : q < q') (hq : pop8 q = L) : rkP L q < rkP L q' := by
  have h1 := sumTo_ge (f := fun z => if pop8 z = L then 1 else 0) (a := q + 1) (q' - (q + 1))
  rw [show q + 1 + (q' - (q + 1)) = q' by omega, sumTo, if_pos hq] at h1
  unfold rkP
  omega
theorem pk_pop {c : Nat → cT} {q : Nat} : ∀ k, (pkL c q k).length = sumTo (fun k => q / 2 ^ k % 2) k
  | 0 => rfl
  | k + 1 => by
    rw [pkL, sumTo, ← pk_pop (c := c) k]
    rcases Nat.mod_two_eq_zero_or_one (q / 2 ^ k) with e | e
    · rw [if_neg (by omega), e, Nat.add_zero]
    · rw [if_pos e, List.length_append, e]; rfl
theorem sumTo_z {f : Nat → Nat} {t : Nat} : ∀ j, (∀ k, t ≤ k → k < t + j → f k = 0) → sumTo f (t + j) = sumTo f t
  | 0, _ => rfl
  | j + 1, h => by rw [← Nat.add_assoc, sumTo, h _ (by omega) (by omega), sumTo_z j (fun k a b => h k a (by omega))]; rfl
theorem pop_of {c : Nat → cT} {q t : Nat} (h : q < 2 ^ t) (ht : t ≤ 8) : pop8 q = (pkL c q t).length := by
  rw [pk_pop]
  have := sumTo_z (f := fun k => q / 2 ^ k % 2) (t := t) (8 - t) (fun k a _ => bit_lt h a)
  rw [show t + (8 - t) = 8 by omega] at this
  exact this
theorem adR_nd {a : Nat → Option Nat} {wv : Nat → Nat} : ∀ k, (adR a wv k).Nodup
  | 0 => List.nodup_nil
  | k + 1 => by
    have i := adR_nd (a := a) (wv := wv) k
    rw [adR]; unfold adS
    split
    · exact i
    · split
      · exact i
      · rename_i w h
        rw [List.nodup_append]
        refine ⟨i, List.nodup_cons.mpr ⟨fun q => (by cases q), List.nodup_nil⟩, fun x hx z hz e => ?_⟩
        rw [List.mem_singleton] at hz
        subst hz; subst e; exact h hx
theorem adR_low {g : mS} {y : pA} {c3 : tC3} {s p i k v : Nat} {wv : Nat → Nat} (hi : i < 15) (h : v ∈ adR (ad1 g y c3 s p i) wv k) : v &&& 15 = i + 1 := by
  obtain ⟨j, _, e⟩ := adR_mem.mp h
  rw [(ad1_iff.mp e).2]
  exact (wdec (by omega)).2
theorem psL_nd {g : mS} {y : pA} {T : Nat → tC3} {s p kc : Nat} {wv : Nat → Nat} : ∀ i, i ≤ 8 → (psL g y T s p wv kc i).Nodup
  | 0, _ => List.nodup_nil
  | i + 1, hi => by
    have h := psL_nd (g := g) (y := y) (T := T) (s := s) (p := p) (kc := kc) (wv := wv) i (by omega)
    rw [psL]
    split
    · rw [List.nodup_append]
      refine ⟨h, adR_nd _, fun x hx z hz e => ?_⟩
      obtain ⟨j, h1, _, h2⟩ := psL_mem.mp hx
      have e1 := adR_low (by omega) h2
      have e2 := adR_low (by omega) hz
      rw [e] at e1
      omega
    · rw [List.append_nil]; exact h
theorem nd_inj {A : List Nat} (h : A.Nodup) {i j : Nat} (hi : i < A.length) (hj : j < A.length) (e : A.getD i 0 = A.getD j 0) : i = j := by
  rw [List.getD_eq_getElem?_getD, List.getD_eq_getElem?_getD, List.getElem?_eq_getElem hi, List.getElem?_eq_getElem hj] at e
  exact (List.getElem_inj h).mp e
/-- never more than 70 ways -/
theorem wy_70 {g : mS} (I : mInv g) {y : pA} {T : Nat → tC3} {c : Nat → cT} (R : wkR g y T c) {s pl L : Nat} (hs : s < 2) (hL : pl + (L + 1) ≤ 40) (h8 : L + 1 ≤ 8) : (wyL g y T s pl (L + 1)).length ≤ 70 := by
  have hnd : (wyL g y T s pl (L + 1)).Nodup := psL_nd _ R.2.2.2.2.1.2
  have ex : ∀ j, ∃ r, j < (wyL g y T s pl (L + 1)).length → r < 70 ∧ ∃ q t lab u, t ≤ 8 ∧ q < 2 ^ t ∧ auG y.2.1 y.2.2.2.2.2.1 q t = some t ∧ grn g s 1000 (pkL c q t) pl (fun _ => 0) = some (pl + (L + 1), lab) ∧ u < 262144 ∧ (∀ z, z < 3 → fdS u z = lab z &&& fdS y.2.2.2.1 z) ∧ (wyL g y T s pl (L + 1)).getD j 0 = u * 2 ^ 4 ||| t ∧ r = rkP (L + 1) q ∧ pop8 q = L + 1 := fun j => by
    by_cases hj : j < (wyL g y T s pl (L + 1)).length
    · obtain ⟨q, t, lab, u, h1, h2, h3, h4, h5, h6⟩ := (wy_iff I R hs (L + 1) hL _).mp (getD_mem hj)
      have ht : t ≤ 8 := Nat.le_trans h1 R.2.2.2.2.1.2
      have hq : q % 2 ^ t < 2 ^ t := Nat.mod_lt _ (Nat.two_pow_pos t)
      have e1 : auG y.2.1 y.2.2.2.2.2.1 (q % 2 ^ t) t = some t := by rw [auG_congr (v := q) (fun j hj => bit_mod hj)]; exact h2
      have e2 : pkL c (q % 2 ^ t) t = pkL c q t := pkL_congr (fun j hj => ⟨rfl, bit_mod hj⟩)
      have hlen := grn_len h3
      replace hlen : pl + (L + 1) = pl + (pkL c q t).length := hlen
      have hpop : pop8 (q % 2 ^ t) = L + 1 := by rw [pop_of (c := c) hq ht, e2]; omega
      have h256 : q % 2 ^ t < 256 := Nat.lt_of_lt_of_le hq (Nat.pow_le_pow_right (n := 2) (by decide) ht)
      refine ⟨rkP (L + 1) (q % 2 ^ t), fun _ => ⟨Nat.lt_of_lt_of_le (rkP_lt h256 hpop) (rkP_70 _ h8), q % 2 ^ t, t, lab, u, ht, hq, e1, by rw [e2]; exact h3, h4, h5, h6, rfl, hpop⟩⟩
    · exact ⟨0, fun z => absurd z hj⟩
  obtain ⟨f, hf⟩ := Classical.axiomOfChoice ex
  refine pig 70 _ f (fun i hi => (hf i hi).1) (fun i j hi hj e => ?_)
  obtain ⟨_, q, t, lab, u, a1, a2, a3, a4, a5, a6, a7, a8, a9⟩ := hf i hi
  obtain ⟨_, q', t', lab', u', b1, b2, b3, b4, b5, b6, b7, b8, b9⟩ := hf j hj
  have hq : q = q' := by
    rcases Nat.lt_trichotomy q q' with z | z | z
    · have := rkP_lt z a9; omega
    · exact z
    · have := rkP_lt z b9; omega
  subst hq
  have ht : t = t' := by
    have x := (auG_le a3).2.2
    have x' := (auG_le b3).2.2
    rcases Nat.lt_trichotomy t t' with z | z | z
    · have := x' (by omega); rw [bit_lt a2 (show t ≤ t' - 1 by omega)] at this; cases this
    · exact z
    · have := x (by omega); rw [bit_lt b2 (show t' ≤ t - 1 by omega)] at this; cases this
  subst ht
  rw [a4] at b4
  have hlab : lab = lab' := congrArg Prod.snd (Option.some.inj b4)
  subst hlab
  have hu : u = u' := fdS_ext a5 b5 (fun z hz => by rw [a6 z hz, b6 z hz])
  subst hu
  exact nd_inj hnd hi hj (by rw [a7, b7])

