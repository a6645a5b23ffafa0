/-! the law's beginning: the places of all that is new, the empty states -/
theorem sumTo_0z {f : Nat → Nat} (h : ∀ j, f j = 0) : ∀ k, sumTo f k = 0
  | 0 => rfl
  | k + 1 => by show sumTo f k + f k = 0; rw [sumTo_0z h k, h]
theorem AI_cz : AI cz0 := by
  refine ⟨?_, fun r hr => ⟨?_, fun z => absurd (cz_I hr) z⟩, fun i _ => ?_, fun a b _ _ => ?_, ⟨?_, fun z _ => ?_⟩, ?_⟩
  · have ht : mTests cz0 = 0 := sumTo_0z (fun j => cz_N 8 _) _
    refine ⟨fun s _ => ?_, fun i _ => ?_, fun i _ => ?_, fun i _ => ?_, fun i _ => ?_, fun p _ => ?_, fun i _ => ?_, fun i _ => ?_, fun i _ => ?_, ?_, ?_, ?_, fun r hr => Or.inl (cz_I hr), fun i _ => ⟨?_, ?_⟩, fun r s _ _ _ k _ z _ e => ?_, fun p hp => ?_⟩
    · rw [cz_N]; omega
    · rw [cz_N]; omega
    · rw [cz_N]; omega
    · rw [cz_N]; omega
    · rw [cz_N]; omega
    · rw [cz_N]; omega
    · rw [cz_N]; omega
    · rw [cz_N]; omega
    · rw [cz_N]; omega
    · rw [cz_K]; omega
    · rw [cz_K]; omega
    · rw [ht]; omega
    · rw [cz_N]; omega
    · rw [cz_N]
    · rw [cz_N, Nat.zero_div] at e; omega
    · rw [cz_K, cz_K] at hp; omega
  · rw [cz_B, cz_I hr]; rfl
  · rw [cz_N]; omega
  · rw [cz_N, cz_N, cz_N]; exact ⟨rfl, by rw [Nat.zero_div, Nat.zero_div]⟩
  · rw [cz_B, cz_B]
  · rw [cz_N]; omega
  · rw [cz_K]; exact (sumTo_0z (fun k => by rw [cz_N, Nat.zero_div]) 1600).symm
theorem lnk_cz {G : eG} {ad : Nat → Nat → Nat} {h : hp} {T : Nat → tC3} {X Y : Nat → pA} : lnk G ad h cz0 T X Y := ⟨fun i hi => by rw [cz_K] at hi; omega, fun p hp => by rw [cz_K] at hp; omega⟩
/-- one map of all places -/
def adF (q : Nat → Nat) (o : Nat) (ad : Nat → Nat → Nat) : Nat → Nat → Nat := fun k i => if k = 100 then q i else if k = 101 then o else ad k i
theorem adF_ok {q : Nat → Nat} {o k i : Nat} {ad : Nat → Nat → Nat} (h : k < 100) : adF q o ad k i = ad k i := by
  unfold adF; rw [if_neg (by omega), if_neg (by omega)]
theorem cOk_lt {k i : Nat} (h : cOk k i = true) : k < 100 := by rcases cOk_cases h with h | h | h | h | h | h | h | h | h | h | h | h | h | h | h <;> omega
theorem ce_adF {G : eG} {q : Nat → Nat} {o : Nat} {ad : Nat → Nat → Nat} {g : mS} {k i : Nat} : ce G (adF q o ad) g k i = ce G ad g k i := by
  unfold ce
  split <;> (try rfl)
theorem co_adF {G : eG} {q : Nat → Nat} {o : Nat} {ad : Nat → Nat → Nat} {g : mS} {h : hp} (c : co G ad g h) (hq : ∀ i, ∃ e, h (q i) = some e) (ho : ∃ e, h o = some e) : co G (adF q o ad) g h := by
  refine ⟨fun k i hk => ?_, fun k i k' i' hk hk' e => ?_, fun k i => ?_⟩
  · rw [adF_ok (cOk_lt hk), ce_adF]; exact c.1 k i hk
  · rw [adF_ok (cOk_lt hk), adF_ok (cOk_lt hk')] at e; exact c.2.1 k i k' i' hk hk' e
  · unfold adF
    split
    · exact hq i
    · split
      · exact ho
      · exact c.2.2 k i
/-- the reference's places, those that it has not set to its first -/
def qF (q : Nat → Nat) : Nat → Nat := fun k => if k = 0 ∨ 22 < k ∨ mkind k = 0 then q 0 else q k
theorem qF_e {q : Nat → Nat} {k : Nat} (hk : k ≤ 22) (h : k = 0 ∨ mkind k ≠ 0) : qF q k = q k := by
  unfold qF
  split
  · rename_i z
    rcases z with z | z | z
    · rw [z]
    · omega
    · rcases h with y | y
      · rw [y]
      · exact absurd z y
  · rfl
theorem mo_qF {G : eG} {q : Nat → Nat} {S : mS} {h : hp} (m : mo G q S h) : mo G (qF q) S h := by
  refine ⟨?_, fun k hk h0 => by rw [qF_e hk (Or.inr h0)]; exact m.2.1 k hk h0, fun i j hi hj i0 j0 e => ?_⟩
  · rw [qF_e (by omega) (Or.inl rfl), m.1]; rfl
  · rw [qF_e hi i0, qF_e hj j0] at e; exact m.2.2 i j hi hj i0 j0 e
theorem mo_qFs {G : eG} {q : Nat → Nat} {S : mS} {h : hp} (m : mo G q S h) (i : Nat) : ∃ e, h (qF q i) = some e := by
  unfold qF
  split
  · exact ⟨_, m.1⟩
  · rename_i z
    exact ⟨_, m.2.1 i (by omega) (fun y => z (Or.inr (Or.inr y)))⟩
/-- the script: an old cell -/
def cxS (G : eG) (b L : Nat) (xs : Nat → Int32) : CX → Prop
  | (p, l, e, R, s, m, args, below, meth, c, Q, n) => va_X b L xs s s.heap ∧ b < s.heap.size ∧ ¬ eA G b
section SROWS
variable {G : eG} {x : CX} {n1 n2 : Nat} {h : hp} {pc nx b L : Nat} {xs : Nat → Int32} {lv : List (Nat × Value)} {st : List Value} {own : String} {cc : ByteArray} {rm : Room} {nL : Nat}
theorem r_slen (C : cxOk G own cc rm nL x) (B : cxS G b L xs x) (d : dn cc pc .arraylength 1 nx) (kk : VV G x n1 n2 h nx lv (.int (nI L) :: st)) : VV G x n1 n2 h pc lv (.ref b :: st) := by
  obtain ⟨p, l, e, R, s, m, args, below, meth, c, Q, n'⟩ := x
  obtain ⟨d, rfl⟩ := d
  intro H locs ls hh hS hl
  exact va_slen C.1 C.2.1 B.1 B.2.1 B.2.2 hS d (kk H locs ls hh hS hl)
theorem r_sld (C : cxOk G own cc rm nL x) (B : cxS G b L xs x) {i : Nat} (d : dn cc pc .iaload 1 nx) (hi : i < L) (hL : L ≤ 3072) (kk : VV G x n1 n2 h nx lv (.int (xs i) :: st)) : VV G x n1 n2 h pc lv (.int (nI i) :: .ref b :: st) := by
  obtain ⟨p, l, e, R, s, m, args, below, meth, c, Q, n'⟩ := x
  obtain ⟨d, rfl⟩ := d
  intro H locs ls hh hS hl
  refine va_sld C.1 C.2.1 B.1 B.2.1 B.2.2 hS (ix_in hi (by omega)) d ?_
  rw [ix_cl hi (by omega)]
  exact kk H locs ls hh hS hl
/-- a number taken for a truth -/
theorem r_tob (C : cxOk G own cc rm nL x) {a : Int32} {o1 o2 : Int} {p1 p2 p3 p4 p5 : Nat} (d1 : dn cc pc (.ifCond .eq o1) 3 p1) (t1 : (pc : Int) + o1 = (p3 : Int)) (d2 : dn cc p1 (.iconst 1) 1 p2) (d3 : dn cc p2 (.goto o2) 3 p5) (t3 : (p2 : Int) + o2 = (p4 : Int)) (d4 : dn cc p3 (.iconst 0) 1 p4) (kk : VV G x n1 n2 h p4 lv (.int (bI (decide (a ≠ 0))) :: st)) : VV G x n1 n2 h pc lv (.int a :: st) :=
  r_if_eq C d1 t1 (fun c => r_iconst C d4 (v := bI (decide (a ≠ 0))) (by rw [c]; decide) kk) (fun c => r_iconst C d2 (v := bI (decide (a ≠ 0))) (by rw [decide_eq_true c]; decide) (r_goto C d3 t3 kk))
end SROWS
theorem law_next {G : eG} {ad : Nat → Nat → Nat} {q : Nat → Nat} {o : Nat} {g g9 T9 : mS} {f : Nat → Int64} {h1 h3 : hp} (s : lst ad q o) (w : lge G ad q o g9 g f h1) (k : stpO G ad h1 T9 g9) (m : mo G q T9 h3) (fr : mfr q h1 h3) : lwo G ad q o (mrg T9 g9) h3 := by
  obtain ⟨k1, k2, T, X, Y, k3⟩ := k
  have c1 := co_mrg w.1 k1
  have old : ∀ a e, (∀ k, k ≤ 22 → a ≠ q k) → h1 a = some e → h3 a = some e := fun a e n z => by rw [fr a n]; exact z
  refine ⟨⟨f, ⟨⟨fun k i hk => old _ _ (fun j hj z => s.2.1 j hj k i hk z.symm) (c1.1 k i hk), c1.2.1, fun k i => ?_⟩, mo_mrg m, old _ _ (fun j hj => s.2.2.1 j hj) w.2.2⟩⟩, k2, T, X, Y, k3.mvN (mfr_nr s fr)⟩
  by_cases e : ∃ j, j ≤ 22 ∧ ad k i = q j
  · obtain ⟨j, hj, e⟩ := e
    by_cases y : mkind j = 0
    · exact ⟨_, by rw [e, s.2.2.2.2.2 j hj y]; exact m.1⟩
    · exact ⟨_, by rw [e]; exact m.2.1 j hj y⟩
  · obtain ⟨e0, z⟩ := c1.2.2 k i
    exact ⟨e0, old _ _ (fun j hj z => e ⟨j, hj, z⟩) z⟩

