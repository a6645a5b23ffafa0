/-! one contract for each call of the class, over the ghost state -/
def ISE : String := "java/lang/IllegalStateException"
/-- nothing but scratch rows is changed -/
def eqv (g g' : mS) : Prop := (∀ k, k ≠ 0 → k ≠ 41 → mK g' k = mK g k) ∧ (∀ k i, k ≠ 22 → k ≠ 50 → k ≠ 52 → mN g' k i = mN g k i) ∧ (∀ k i, k ≠ 30 → k ≠ 31 → mB g' k i = mB g k i) ∧ ∀ k i, k ≠ 19 → mI g' k i = mI g k i
/-- nothing but results is changed -/
def resR (g g' : mS) : Prop := (∀ k, k ≠ 0 → k ≠ 41 → mK g' k = mK g k) ∧ (∀ k i, k ≠ 21 → k ≠ 54 → k ≠ 22 → k ≠ 50 → k ≠ 52 → mN g' k i = mN g k i) ∧ (∀ k i, k ≠ 30 → k ≠ 31 → k ≠ 32 → mB g' k i = mB g k i) ∧ ∀ k i, k ≠ 19 → k ≠ 20 → mI g' k i = mI g k i
/-- nothing but the pile is changed, and its parts are n -/
def pilR (g g' : mS) (n : Nat) : Prop := (mK g' 16 = n ∧ mK g' 15 = mK g 15 ∧ mK g' 40 = mK g 40) ∧ (∀ j i, (j = 1 ∨ j = 3 ∨ j = 4) → mN g' j i = mN g j i) ∧ (∀ j i, (j = 5 ∨ j = 6) → mB g' j i = mB g j i) ∧ ∀ r, mI g' 20 r = mI g 20 r
theorem eqv_rf (g : mS) : eqv g g := ⟨fun _ _ _ => rfl, fun _ _ _ _ _ => rfl, fun _ _ _ _ => rfl, fun _ _ _ => rfl⟩
theorem eqv.tr {a b c : mS} (h : eqv a b) (k : eqv b c) : eqv a c := ⟨fun j x y => (k.1 j x y).trans (h.1 j x y), fun j i x y z => (k.2.1 j i x y z).trans (h.2.1 j i x y z), fun j i x y => (k.2.2.1 j i x y).trans (h.2.2.1 j i x y), fun j i x => (k.2.2.2 j i x).trans (h.2.2.2 j i x)⟩
theorem eqv.res {a b : mS} (h : eqv a b) : resR a b := ⟨h.1, fun j i _ _ x y z => h.2.1 j i x y z, fun j i x y _ => h.2.2.1 j i x y, fun j i x _ => h.2.2.2 j i x⟩
theorem resR.tr {a b c : mS} (h : resR a b) (k : resR b c) : resR a c := ⟨fun j x y => (k.1 j x y).trans (h.1 j x y), fun j i x y z u v => (k.2.1 j i x y z u v).trans (h.2.1 j i x y z u v), fun j i x y z => (k.2.2.1 j i x y z).trans (h.2.2.1 j i x y z), fun j i x y => (k.2.2.2 j i x y).trans (h.2.2.2 j i x y)⟩
theorem mg_eq {S c : mS} {g : mS} (a1 : ∀ k, k ≠ 0 → k < 23 → mK S k = mK g k) (a2 : ∀ k, k ≠ 41 → mK c k = mK g k) (b1 : ∀ k i, k ≠ 22 → k < 23 → mN S k i = mN g k i) (b2 : ∀ k i, k ≠ 50 → k ≠ 52 → 23 ≤ k → mN c k i = mN g k i) (c1 : ∀ k i, k < 23 → mB S k i = mB g k i) (c2 : ∀ k i, k ≠ 30 → k ≠ 31 → 23 ≤ k → mB c k i = mB g k i) (d1 : ∀ k i, k ≠ 19 → k < 23 → mI S k i = mI g k i) (d2 : ∀ k i, 23 ≤ k → mI c k i = mI g k i) : eqv g (mrg S c) := by
  refine ⟨fun k h1 h2 => ?_, fun k i h1 h2 h3 => ?_, fun k i h1 h2 => ?_, fun k i h1 => ?_⟩
  · rw [mg_K]; split
    · exact a1 k h1 ‹_›
    · exact a2 k h2
  · rw [mg_N]; split
    · exact b1 k i h1 ‹_›
    · exact b2 k i h2 h3 (by omega)
  · rw [mg_B]; split
    · exact c1 k i ‹_›
    · exact c2 k i h1 h2 (by omega)
  · show (if k < 23 then S.2.2.2 k i else c.2.2.2 k i) = _
    split
    · exact d1 k i h1 ‹_›
    · exact d2 k i (by omega)
theorem eqv_K {g : mS} {c : Nat} : eqv g (mrg (uK g 0 c) g) := mg_eq (fun k h _ => if_neg h) (fun _ _ => rfl) (fun _ _ _ _ => rfl) (fun _ _ _ _ _ => rfl) (fun _ _ _ => rfl) (fun _ _ _ _ _ => rfl) (fun _ _ _ _ => rfl) (fun _ _ _ => rfl)
theorem eqv_w {g : mS} {c kq : Nat} {f9 : Nat → Int32} {f : Nat → Nat} {bq : Bool} : eqv g (mrg (sI (uK g 0 c) 19 f9) (wst g f kq bq)) := mg_eq (fun k h _ => if_neg h) (fun k h => wst_rd.1 k h) (fun _ _ _ _ => rfl) (fun k i h _ _ => wst_rd.2.1 k i h) (fun _ _ _ => rfl) (fun k i h1 h2 _ => wst_rd.2.2.1 k i h1 h2) (fun k i h _ => by rw [mI_sI, if_neg h]; rfl) (fun k i _ => wst_rd.2.2.2 k i)
theorem eqv_n {g : mS} {c : Nat} {f9 f : Nat → Nat} : eqv g (mrg (sN (uK g 0 c) 22 f9) (sN g 52 f)) := mg_eq (fun k h _ => if_neg h) (fun _ _ => rfl) (fun k i h _ => by rw [mN_sN, if_neg h]; rfl) (fun k i _ h _ => by rw [mN_sN, if_neg h]) (fun _ _ _ => rfl) (fun _ _ _ _ _ => rfl) (fun _ _ _ _ => rfl) (fun _ _ _ => rfl)
theorem step_K {G : eG} {ad : Nat → Nat → Nat} {h h9 : hp} {g : mS} {T : Nat → tC3} {X Y : Nat → pA} {c : Nat} (A : AI g) (k : lnk G ad h g T X Y) (F : cfr ad h h9) : stpO G ad h9 (uK g 0 c) g := step_no A k F (fun j hj => if_neg hj) (fun _ _ _ => rfl) (fun _ _ => rfl) (fun _ _ _ => rfl) (fun _ _ => rfl) (fun _ _ _ _ => rfl) (fun _ _ _ _ => rfl) A.2.2.2.2.1
theorem step_KN {G : eG} {ad : Nat → Nat → Nat} {h h9 : hp} {g g9 : mS} {T : Nat → tC3} {X Y : Nat → pA} {c : Nat} {f9 f : Nat → Nat} (A : AI g) (k : lnk G ad h g T X Y) (F : cfr ad h h9) (e : g9 = sN g 52 f) : stpO G ad h9 (sN (uK g 0 c) 22 f9) g9 := by
  subst e
  exact step_no A k F (fun j hj => if_neg hj) (fun j i hj => by rw [mN_sN, if_neg hj]; rfl) (fun _ _ => rfl) (fun _ _ _ => rfl) (fun _ _ => rfl) (fun j i _ hj => by rw [mN_sN, if_neg hj]) (fun _ _ _ _ => rfl) ⟨A.2.2.2.2.1.1, fun z hz => by rw [mN_sN, if_neg (by decide)]; exact A.2.2.2.2.1.2 z hz⟩
theorem step_Kw {G : eG} {ad : Nat → Nat → Nat} {h h9 : hp} {g : mS} {T : Nat → tC3} {X Y : Nat → pA} {c : Nat} {f9 : Nat → Int32} {f : Nat → Nat} {kq : Nat} {bq : Bool} (A : AI g) (k : lnk G ad h g T X Y) (F : cfr ad h h9) (hq : ∀ z, z < 140 → f z < 4194304) : stpO G ad h9 (sI (uK g 0 c) 19 f9) (wst g f kq bq) := step_no A k F (fun j hj => if_neg hj) (fun _ _ _ => rfl) (fun _ _ => rfl) (fun j i hj => by rw [mI_sI, if_neg hj]; rfl) (fun j hj => if_neg hj) (fun j i hj _ => by
  show (if j = 50 then f else g.2.1 j) i = g.2.1 j i
  rw [if_neg hj]) (fun j i h0 h1 => by
  show (if j = 31 ∧ i = 0 then bq else if j = 30 ∧ i = 0 then bq else mB g j i) = mB g j i
  rw [if_neg (by omega), if_neg (by omega)]) (wInv_wst hq)
theorem lnk.HL {G : eG} {ad : Nat → Nat → Nat} {h : hp} {g : mS} {T : Nat → tC3} {X Y : Nat → pA} (k : lnk G ad h g T X Y) : ∀ i, i < mK g 16 → (X i).2.2.1 < 2 ^ (X i).1 := fun i hi => (k.1 i hi).2.2.2.2.1.2.1.2.1
theorem stpO.of {G : eG} {ad : Nat → Nat → Nat} {h9 : hp} {S' g9 : mS} {Y : Nat → pA} (k : shr S' g9 ∧ AI (mrg S' g9) ∧ ∃ T' X', lnk G ad h9 (mrg S' g9) T' X' Y) : stpO G ad h9 S' g9 := by
  obtain ⟨a, b, T, X, c⟩ := k
  exact ⟨a, b, T, X, Y, c⟩
theorem pil_mg {g S c : mS} {n : Nat} (a : mK S 16 = n ∧ mK S 15 = mK g 15) (a2 : mK c 40 = mK g 40) (b : ∀ j i, (j = 1 ∨ j = 3 ∨ j = 4) → mN S j i = mN g j i) (d : ∀ j i, (j = 5 ∨ j = 6) → mB S j i = mB g j i) (e : ∀ r, mI S 20 r = mI g 20 r) : pilR g (mrg S c) n := ⟨⟨a.1, a.2, a2⟩, fun j i h => by rw [mg_N, if_pos (by omega)]; exact b j i h, fun j i h => by rw [mg_B, if_pos (by omega)]; exact d j i h, fun r => e r⟩
theorem tmap_N {S : mS} {M : Nat → Nat} {j i : Nat} (h : j = 1 ∨ j = 3 ∨ j = 4) : mN (tmap S M) j i = mN S j i := by
  show (if j = 12 then _ else _) = _
  rw [if_neg (by omega), if_neg (by omega), if_neg (by omega)]; rfl
theorem tmap_I {S : mS} {M : Nat → Nat} {r : Nat} : mI (tmap S M) 20 r = mI S 20 r := rfl
theorem res_mg {g S c : mS} (a1 : ∀ k, k ≠ 0 → k < 23 → mK S k = mK g k) (a2 : ∀ k, k ≠ 41 → k ≠ 0 → mK c k = mK g k) (b1 : ∀ k i, k ≠ 22 → k ≠ 21 → k < 23 → mN S k i = mN g k i) (b2 : ∀ k i, k ≠ 50 → k ≠ 52 → k ≠ 54 → k ≠ 21 → 23 ≤ k → mN c k i = mN g k i) (c1 : ∀ k i, k < 23 → mB S k i = mB g k i) (c2 : ∀ k i, k ≠ 30 → k ≠ 31 → k ≠ 32 → 23 ≤ k → mB c k i = mB g k i) (d1 : ∀ k i, k ≠ 19 → k ≠ 20 → k < 23 → mI S k i = mI g k i) (d2 : ∀ k i, k ≠ 20 → 23 ≤ k → mI c k i = mI g k i) : resR g (mrg S c) := by
  refine ⟨fun k h1 h2 => ?_, fun k i h1 h2 h3 h4 h5 => ?_, fun k i h1 h2 h3 => ?_, fun k i h1 h2 => ?_⟩
  · rw [mg_K]; split
    · exact a1 k h1 ‹_›
    · exact a2 k h2 h1
  · rw [mg_N]; split
    · exact b1 k i h3 h1 ‹_›
    · exact b2 k i h4 h5 h2 h1 (by omega)
  · rw [mg_B]; split
    · exact c1 k i ‹_›
    · exact c2 k i h1 h2 h3 (by omega)
  · show (if k < 23 then S.2.2.2 k i else c.2.2.2 k i) = _
    split
    · exact d1 k i h1 h2 ‹_›
    · exact d2 k i h2 (by omega)

theorem cRun_ok {g : mS} {z1 z2 z3 z4 : Int32} (h : cRun g z1 z2 z3 z4 = 0) : mIsP g z2 = true ∧ tn z3 < 2 := by
  unfold cRun at h
  split at h
  · rename_i e
    rw [Bool.and_eq_true] at e
    obtain ⟨-, -, q⟩ := inR_of e.2 (by decide) (by decide)
    exact ⟨e.1, by omega⟩
  · cases h
theorem q_tokens {l : Launch} {G : eG} {ad : Nat → Nat → Nat} {h : hp} {g : mS} {T : Nat → tC3} {X Y : Nat → pA} {z1 : Int32} (hlf : l.stackTraces = false) (m : co G ad g h) (A : AI g) (k : lnk G ad h g T X Y) (c0 : cSide z1 = 0) : kQ l G ad g h yX6_tokens cX6_tokens 2 (Option.some Jvm.ClassFile.FieldType.int) { frames := 7, cells := 1, slots := 6, locals := 111 } [.int z1] (fun v g' => v = some (.int (nI (rTokens g z1))) ∧ eqv g g') (fun _ => False) := by
  refine ⟨_, _, k_tokens hlf m, fun E g' q => ?_, fun v g9 h9 q hF => ?_⟩
  · obtain ⟨⟨-, e⟩, -⟩ := q; rw [c0] at e; cases e
  · obtain ⟨rfl, rfl, -⟩ := q
    exact ⟨_, step_K (c := 0) A k hF, rfl, eqv_K⟩
theorem q_sentenceOf {l : Launch} {G : eG} {ad : Nat → Nat → Nat} {h : hp} {g : mS} {T : Nat → tC3} {X Y : Nat → pA} {z1 : Int32} {z2 : Int32} (hlf : l.stackTraces = false) (m : co G ad g h) (A : AI g) (k : lnk G ad h g T X Y) (c0 : cSent g z1 z2 = 0) : kQ l G ad g h yX6_sentenceOf cX6_sentenceOf 4 (Option.some Jvm.ClassFile.FieldType.int) { frames := 7, cells := 2, slots := 12, locals := 111 } [.int z1, .int z2] (fun v g' => v = some (.int (nI (rSent g z1 z2))) ∧ eqv g g') (fun _ => False) := by
  refine ⟨_, _, k_sentenceOf hlf m A.1, fun E g' q => ?_, fun v g9 h9 q hF => ?_⟩
  · obtain ⟨⟨-, e⟩, -⟩ := q; rw [c0] at e; cases e
  · obtain ⟨rfl, rfl, -⟩ := q
    exact ⟨_, step_K (c := 0) A k hF, rfl, eqv_K⟩
theorem q_occurs {l : Launch} {G : eG} {ad : Nat → Nat → Nat} {h : hp} {g : mS} {T : Nat → tC3} {X Y : Nat → pA} {z1 : Int32} {z2 : Int32} {z3 : Int32} (hlf : l.stackTraces = false) (m : co G ad g h) (A : AI g) (k : lnk G ad h g T X Y) (c0 : cOccurs z1 z2 = 0) : kQ l G ad g h yX6_occurs cX6_occurs 7 (Option.some Jvm.ClassFile.FieldType.int) { frames := 7, cells := 2, slots := 12, locals := 112 } [.int z1, .int z2, .int z3] (fun v g' => v = some (.int (nI (rOccurs g z1 z2 z3))) ∧ eqv g g') (fun _ => False) := by
  refine ⟨_, _, k_occurs hlf m A.1, fun E g' q => ?_, fun v g9 h9 q hF => ?_⟩
  · obtain ⟨e, -⟩ := q; rcases e with ⟨-, e⟩ | ⟨-, e⟩ <;> (rw [c0] at e; cases e)
  · obtain ⟨rfl, rfl, -⟩ := q
    exact ⟨_, step_K (c := 0) A k hF, rfl, eqv_K⟩
theorem q_size {l : Launch} {G : eG} {ad : Nat → Nat → Nat} {h : hp} {g : mS} {T : Nat → tC3} {X Y : Nat → pA} {z1 : Int32} (m : co G ad g h) (A : AI g) (k : lnk G ad h g T X Y) : kR l G ad g h yX6_size cX6_size 2 (Option.some Jvm.ClassFile.FieldType.int) { frames := 2, cells := 0, slots := 0, locals := 42 } [.int z1] (fun v g' => v = some (.int (rSz g z1)) ∧ eqv g g') := by
  refine ⟨_, k_size m A.1 A.2.1, fun v g9 h9 q hF => ?_⟩
  · obtain ⟨rfl, rfl⟩ := q
    exact ⟨_, step_K (c := 0) A k hF, rfl, eqv_K⟩
theorem q_match {l : Launch} {G : eG} {ad : Nat → Nat → Nat} {h : hp} {g : mS} {T : Nat → tC3} {X Y : Nat → pA} {z1 : Int32} {z2 : Int32} (hlf : l.stackTraces = false) (m : co G ad g h) (A : AI g) (k : lnk G ad h g T X Y) (c0 : cMatch g z1 z2 = 0) : kQ l G ad g h yX6_match cX6_match 7 (Option.some Jvm.ClassFile.FieldType.int) { frames := 7, cells := 2, slots := 12, locals := 111 } [.int z1, .int z2] (fun v g' => v = some (.int (nI (rMatch g z1 z2))) ∧ eqv g g') (fun _ => False) := by
  refine ⟨_, _, k_match hlf m A.1 A.2.1, fun E g' q => ?_, fun v g9 h9 q hF => ?_⟩
  · obtain ⟨⟨-, e⟩, -⟩ := q; rw [c0] at e; cases e
  · obtain ⟨rfl, rfl, -⟩ := q
    exact ⟨_, step_K (c := 0) A k hF, rfl, eqv_K⟩
theorem q_walk {l : Launch} {G : eG} {ad : Nat → Nat → Nat} {h : hp} {g : mS} {T : Nat → tC3} {X Y : Nat → pA} {z1 : Int32} {z2 : Int32} {z3 : Int32} {z4 : Bool} (hlf : l.stackTraces = false) (m : co G ad g h) (A : AI g) (k : lnk G ad h g T X Y) (c0 : cWalk g z1 z2 z3 = 0) : kQ l G ad g h yX6_walk cX6_walk 11 (Option.some Jvm.ClassFile.FieldType.int) { frames := 7, cells := 3, slots := 18, locals := 152 } [.int z1, .int z2, .int z3, .int (bI z4)] (fun v g' => v = some (.int (nI (rWalk g z1 z2 z3 z4))) ∧ eqv g g') (fun _ => False) := by
  refine ⟨_, _, k_walk hlf m A.1 A.2.2.2.2.1 k.pt, fun E g' q => ?_, fun v g9 h9 q hF => ?_⟩
  · obtain ⟨e, -⟩ := q; rcases e with ⟨-, e⟩ | ⟨-, e⟩ <;> (rw [c0] at e; cases e)
  · obtain ⟨rfl, -, f8, k8, b8, rfl, hq8⟩ := q
    exact ⟨_, step_Kw (c := 0) (f9 := fun _ => 0) A k hF hq8, rfl, eqv_w⟩
theorem q_groups {l : Launch} {G : eG} {ad : Nat → Nat → Nat} {h : hp} {g : mS} {T : Nat → tC3} {X Y : Nat → pA} {z1 : Int32} {z2 : Int32} {z3 : Bool} (hlf : l.stackTraces = false) (m : co G ad g h) (A : AI g) (k : lnk G ad h g T X Y) (c0 : cGr g z1 z2 = 0) : kQ l G ad g h yX6_groups cX6_groups 7 (Option.some Jvm.ClassFile.FieldType.int) { frames := 7, cells := 2, slots := 12, locals := 112 } [.int z1, .int z2, .int (bI z3)] (fun v g' => v = some (.int (nI (rGr g z1 z2 z3))) ∧ eqv g g') (fun _ => False) := by
  refine ⟨_, _, k_groups hlf m A.1 A.2.1, fun E g' q => ?_, fun v g9 h9 q hF => ?_⟩
  · obtain ⟨e, -⟩ := q; rcases e with ⟨-, e⟩ | ⟨-, e⟩ <;> (rw [c0] at e; cases e)
  · obtain ⟨rfl, rfl, -⟩ := q
    exact ⟨_, step_KN (c := 0) (f9 := fun _ => 0) A k hF rfl, rfl, eqv_n⟩
theorem q_groupAt {l : Launch} {G : eG} {ad : Nat → Nat → Nat} {h : hp} {g : mS} {T : Nat → tC3} {X Y : Nat → pA} {z1 : Int32} {z2 : Int32} {z3 : Bool} {z4 : Int32} (hlf : l.stackTraces = false) (m : co G ad g h) (A : AI g) (k : lnk G ad h g T X Y) (c0 : cGA g z1 z2 z3 z4 = 0) : kQ l G ad g h yX6_groupAt cX6_groupAt 7 (Option.some Jvm.ClassFile.FieldType.int) { frames := 7, cells := 3, slots := 18, locals := 112 } [.int z1, .int z2, .int (bI z3), .int z4] (fun v g' => v = some (.int (nI (rGA g z1 z2 z3 z4))) ∧ eqv g g') (fun _ => False) := by
  refine ⟨_, _, k_groupAt hlf m A.1 A.2.1, fun E g' q => ?_, fun v g9 h9 q hF => ?_⟩
  · obtain ⟨e, -⟩ := q; rcases e with ⟨-, e⟩ | ⟨-, e⟩ <;> (rw [c0] at e; cases e)
  · obtain ⟨rfl, rfl, -⟩ := q
    exact ⟨_, step_KN (c := 0) (f9 := fun _ => 0) A k hF rfl, rfl, eqv_n⟩
theorem q_test {l : Launch} {G : eG} {ad : Nat → Nat → Nat} {h : hp} {g : mS} {T : Nat → tC3} {X Y : Nat → pA} {z1 : Int32} {z2 : Int32} {z3 : Bool} (hlf : l.stackTraces = false) (m : co G ad g h) (A : AI g) (k : lnk G ad h g T X Y) (c1 : cTest g z1 z2 ≠ 1) : kQ l G ad g h yX6_test cX6_test 4 (Option.some Jvm.ClassFile.FieldType.int) { frames := 7, cells := 9, slots := 51, locals := 112 } [.int z1, .int z2, .int (bI z3)] (fun v g' => v = some (.int (nI (mK g 16 + 1))) ∧ pilR g g' (mK g 16 + 1)) (fun E => E = ISE ∧ cTest g z1 z2 = 2) := by
  refine ⟨_, _, k_test hlf m A.1 (k.pl A.1).pil, fun E g' q => ?_, fun v g9 h9 q hF => ?_⟩
  · obtain ⟨e, e2⟩ := q; rcases e with ⟨-, e⟩ | e; (exact absurd e (by omega)); exact ⟨e, e2⟩
  · obtain ⟨rfl, c0, a9, t9, rfl, hp9, ht9, hn9⟩ := q
    refine ⟨_, stpO.of (step_test A k hF c0 hn9 hp9 ht9), by rw [rPut, if_pos c0], ?_⟩
    rw [tTest, if_pos c0]
    cases z3
    · rw [if_neg (by decide)]; exact pil_mg ⟨rfl, rfl⟩ rfl (fun j i h => by rcases h with rfl | rfl | rfl <;> rfl) (fun j i h => by rcases h with rfl | rfl <;> rfl) (fun r => rfl)
    · rw [if_pos rfl]; exact pil_mg ⟨rfl, rfl⟩ rfl (fun j i h => by rcases h with rfl | rfl | rfl <;> rfl) (fun j i h => by rcases h with rfl | rfl <;> rfl) (fun r => rfl)
theorem q_any {l : Launch} {G : eG} {ad : Nat → Nat → Nat} {h : hp} {g : mS} {T : Nat → tC3} {X Y : Nat → pA} (hlf : l.stackTraces = false) (m : co G ad g h) (A : AI g) (k : lnk G ad h g T X Y) : kQ l G ad g h yX6_any cX6_any 1 (Option.some Jvm.ClassFile.FieldType.int) { frames := 7, cells := 7, slots := 39, locals := 110 } [] (fun v g' => v = some (.int (nI (mK g 16 + 1))) ∧ pilR g g' (mK g 16 + 1)) (fun E => E = ISE ∧ cAny g = 1) := by
  refine ⟨_, _, k_any hlf m A.1 (k.pl A.1).pil, fun E g' q => ?_, fun v g9 h9 q hF => ?_⟩
  · obtain ⟨⟨e, e3⟩, e2⟩ := q; exact ⟨⟨e, e3⟩, e2⟩
  · obtain ⟨rfl, c0, a9, t9, rfl, hp9, ht9, hn9⟩ := q
    refine ⟨_, stpO.of (step_any A k hF c0 hn9 hp9 ht9), by rw [rPut, if_pos c0], ?_⟩
    rw [tAny, if_pos c0]
    exact pil_mg ⟨rfl, rfl⟩ rfl (fun j i h => by rcases h with rfl | rfl | rfl <;> rfl) (fun j i h => by rcases h with rfl | rfl <;> rfl) (fun r => rfl)
theorem q_same {l : Launch} {G : eG} {ad : Nat → Nat → Nat} {h : hp} {g : mS} {T : Nat → tC3} {X Y : Nat → pA} {z1 : Int32} {z2 : Int32} (hlf : l.stackTraces = false) (m : co G ad g h) (A : AI g) (k : lnk G ad h g T X Y) (c1 : cSame g z1 z2 ≠ 1) : kQ l G ad g h yX6_same cX6_same 3 (Option.some Jvm.ClassFile.FieldType.int) { frames := 7, cells := 9, slots := 51, locals := 112 } [.int z1, .int z2] (fun v g' => v = some (.int (nI (mK g 16 + 1))) ∧ pilR g g' (mK g 16 + 1)) (fun E => E = ISE ∧ cSame g z1 z2 = 2) := by
  refine ⟨_, _, k_same hlf m A.1 (k.pl A.1).pil, fun E g' q => ?_, fun v g9 h9 q hF => ?_⟩
  · obtain ⟨e, e2⟩ := q; rcases e with ⟨-, e⟩ | e; (exact absurd e (by omega)); exact ⟨e, e2⟩
  · obtain ⟨rfl, c0, a9, t9, rfl, hp9, ht9, hn9⟩ := q
    refine ⟨_, stpO.of (step_same A k hF c0 hn9 hp9 ht9), by rw [rPut, if_pos c0], ?_⟩
    rw [tSame, if_pos c0]
    exact pil_mg ⟨rfl, rfl⟩ rfl (fun j i h => by rcases h with rfl | rfl | rfl <;> rfl) (fun j i h => by rcases h with rfl | rfl <;> rfl) (fun r => rfl)
theorem q_label {l : Launch} {G : eG} {ad : Nat → Nat → Nat} {h : hp} {g : mS} {T : Nat → tC3} {X Y : Nat → pA} {z1 : Int32} (hlf : l.stackTraces = false) (m : co G ad g h) (A : AI g) (k : lnk G ad h g T X Y) (c1 : cLabel g z1 ≠ 1) : kQ l G ad g h yX6_label cX6_label 3 (Option.none : Option Jvm.ClassFile.FieldType) { frames := 8, cells := 8, slots := 50, locals := 133 } [.int z1] (fun v g' => v = none ∧ pilR g g' (mK g 16)) (fun E => E = ISE) := by
  refine ⟨_, _, k_label hlf m A.1 (k.pl A.1), fun E g' q => ?_, fun v g9 h9 q hF => ?_⟩
  · obtain ⟨e, e2⟩ := q; rcases e with ⟨-, e⟩ | ⟨e, -⟩; (exact absurd e (by omega)); exact ⟨e, e2⟩
  · obtain ⟨rfl, c0, a9, t9, rfl, hp9, ht9, hn9⟩ := q
    refine ⟨_, stpO.of (step_label A k hF c0 rfl hn9 hp9 ht9), rfl, ?_⟩
    rw [tLabel, if_pos c0]
    exact pil_mg ⟨rfl, rfl⟩ rfl (fun j i h => by rcases h with rfl | rfl | rfl <;> rfl) (fun j i h => by rcases h with rfl | rfl <;> rfl) (fun r => rfl)
theorem q_both {l : Launch} {G : eG} {ad : Nat → Nat → Nat} {h : hp} {g : mS} {T : Nat → tC3} {X Y : Nat → pA} (hlf : l.stackTraces = false) (m : co G ad g h) (A : AI g) (k : lnk G ad h g T X Y) : kQ l G ad g h yX6_both cX6_both 3 (Option.some Jvm.ClassFile.FieldType.int) { frames := 8, cells := 9, slots := 56, locals := 133 } [] (fun v g' => v = some (.int (nI (mK g 16 - 1))) ∧ pilR g g' (mK g 16 - 1)) (fun E => E = ISE) := by
  refine ⟨_, _, k_both hlf m A.1 (k.pl A.1), fun E g' q => ?_, fun v g9 h9 q hF => ?_⟩
  · obtain ⟨⟨e, -⟩, e2⟩ := q; exact ⟨e, e2⟩
  · obtain ⟨rfl, c0, a9, t9, rfl, hp9, ht9, hn9⟩ := q
    refine ⟨_, stpO.of (step_both A k hF c0 rfl rfl hn9 hp9 ht9), by rw [rBoth, if_pos c0], ?_⟩
    rw [tBoth, if_pos c0]
    exact pil_mg ⟨rfl, rfl⟩ rfl (fun j i h => by rcases h with rfl | rfl | rfl <;> rfl) (fun j i h => by rcases h with rfl | rfl <;> rfl) (fun r => rfl)
theorem q_chain {l : Launch} {G : eG} {ad : Nat → Nat → Nat} {h : hp} {g : mS} {T : Nat → tC3} {X Y : Nat → pA} (hlf : l.stackTraces = false) (m : co G ad g h) (A : AI g) (k : lnk G ad h g T X Y) (c1 : cTwo g = 0) : kQ l G ad g h yX6_chain cX6_chain 3 (Option.some Jvm.ClassFile.FieldType.int) { frames := 7, cells := 6, slots := 42, locals := 111 } [] (fun v g' => v = some (.int (nI (mK g 16 - 1))) ∧ pilR g g' (mK g 16 - 1)) (fun _ => False) := by
  refine ⟨_, _, k_chain hlf m A.1 (k.pl A.1), fun E g' q => ?_, fun v g9 h9 q hF => ?_⟩
  · obtain ⟨⟨-, e⟩, -⟩ := q; rw [c1] at e; cases e
  · obtain ⟨rfl, c0, a9, rfl, hp9⟩ := q
    refine ⟨_, stpO.of (step_chain A k hF c0 hp9), by rw [rTwo, if_pos c0], ?_⟩
    rw [tTwo, if_pos c0]
    exact pil_mg ⟨rfl, rfl⟩ rfl (fun j i h => by rcases h with rfl | rfl | rfl <;> rfl) (fun j i h => by rcases h with rfl | rfl <;> rfl) (fun r => rfl)
theorem q_either {l : Launch} {G : eG} {ad : Nat → Nat → Nat} {h : hp} {g : mS} {T : Nat → tC3} {X Y : Nat → pA} (hlf : l.stackTraces = false) (m : co G ad g h) (A : AI g) (k : lnk G ad h g T X Y) (c1 : cTwo g = 0) : kQ l G ad g h yX6_either cX6_either 3 (Option.some Jvm.ClassFile.FieldType.int) { frames := 7, cells := 6, slots := 42, locals := 111 } [] (fun v g' => v = some (.int (nI (mK g 16 - 1))) ∧ pilR g g' (mK g 16 - 1)) (fun _ => False) := by
  refine ⟨_, _, k_either hlf m A.1 (k.pl A.1), fun E g' q => ?_, fun v g9 h9 q hF => ?_⟩
  · obtain ⟨⟨-, e⟩, -⟩ := q; rw [c1] at e; cases e
  · obtain ⟨rfl, c0, a9, rfl, hp9⟩ := q
    refine ⟨_, stpO.of (step_either A k hF c0 hp9), by rw [rTwo, if_pos c0], ?_⟩
    rw [tTwo, if_pos c0]
    exact pil_mg ⟨rfl, rfl⟩ rfl (fun j i h => by rcases h with rfl | rfl | rfl <;> rfl) (fun j i h => by rcases h with rfl | rfl <;> rfl) (fun r => rfl)
theorem q_repeat {l : Launch} {G : eG} {ad : Nat → Nat → Nat} {h : hp} {g : mS} {T : Nat → tC3} {X Y : Nat → pA} {z1 : Int32} {z2 : Int32} (hlf : l.stackTraces = false) (m : co G ad g h) (A : AI g) (k : lnk G ad h g T X Y) (c1 : cRep g z1 z2 ≠ 1) : kQ l G ad g h yX6_repeat cX6_repeat 5 (Option.some Jvm.ClassFile.FieldType.int) { frames := 7, cells := 18, slots := 133, locals := 112 } [.int z1, .int z2] (fun v g' => v = some (.int (nI (mTests g'))) ∧ pilR g g' (mK g 16)) (fun E => E = ISE) := by
  refine ⟨_, _, k_repeat hlf m A.1 (k.pl A.1) k.HL, fun E g' q => ?_, fun v g9 h9 q hF => ?_⟩
  · obtain ⟨e, e2⟩ := q; rcases e with ⟨-, e⟩ | ⟨e, -⟩; (exact absurd e (by omega)); exact ⟨e, e2⟩
  · obtain ⟨rfl, c0, a9, rfl, hp9⟩ := q
    obtain ⟨s1, s2⟩ := step_repeat A k hF c0 hp9
    refine ⟨_, stpO.of s1, by rw [← s2, rRep, if_pos c0]; rfl, ?_⟩
    rw [tRep, if_pos c0]
    exact pil_mg ⟨rfl, rfl⟩ rfl (fun j i h => by rcases h with rfl | rfl | rfl <;> rfl) (fun j i h => by rcases h with rfl | rfl <;> rfl) (fun r => rfl)
theorem q_keep {l : Launch} {G : eG} {ad : Nat → Nat → Nat} {h : hp} {g : mS} {T : Nat → tC3} {X Y : Nat → pA} (hlf : l.stackTraces = false) (m : co G ad g h) (A : AI g) (k : lnk G ad h g T X Y) (c1 : cKeep g = 0) : kQ l G ad g h yX6_keep cX6_keep 2 (Option.some Jvm.ClassFile.FieldType.int) { frames := 6, cells := 1, slots := 6, locals := 90 } [] (fun v g' => v = some (.int (nI (mK g 15))) ∧ (mK g' 15 = mK g 15 + 1 ∧ mK g' 16 = 0 ∧ mK g' 40 = mK g 40) ∧ (∀ j i, (j = 1 ∨ j = 3 ∨ j = 4) → mN g' j i = mN g j i) ∧ (∀ j i, (j = 5 ∨ j = 6) → mB g' j i = mB g j i) ∧ ∀ r, mI g' 20 r = mI g 20 r) (fun _ => False) := by
  refine ⟨_, _, k_keep hlf m A.1 (k.pl A.1), fun E g' q => ?_, fun v g9 h9 q hF => ?_⟩
  · obtain ⟨⟨-, e⟩, -⟩ := q; rw [c1] at e; cases e
  · obtain ⟨rfl, c0, rfl⟩ := q
    refine ⟨_, step_keep A k hF c0, rfl, ?_⟩
    rw [tKeep, if_pos c0]
    exact ⟨⟨rfl, rfl, rfl⟩, fun j i h => by rcases h with rfl | rfl | rfl <;> rfl, fun j i h => by rcases h with rfl | rfl <;> rfl, fun r => rfl⟩
theorem q_wipe {l : Launch} {G : eG} {ad : Nat → Nat → Nat} {h : hp} {g : mS} {T : Nat → tC3} {X Y : Nat → pA} (m : co G ad g h) (A : AI g) (k : lnk G ad h g T X Y) : kR l G ad g h yX6_wipe cX6_wipe 2 (Option.some Jvm.ClassFile.FieldType.int) { frames := 1, cells := 0, slots := 0, locals := 22 } [] (fun v g' => v = some (.int (nI (mK g 16))) ∧ pilR g g' 0) := by
  refine ⟨_, k_wipe m (pile_le A.1), fun v g9 h9 q hF => ?_⟩
  · obtain ⟨rfl, rfl⟩ := q
    refine ⟨_, (fun ⟨a, b, c⟩ => ⟨a, b, T, X, Y, c⟩) (step_wipe A k hF), rfl, ?_⟩
    exact pil_mg ⟨rfl, rfl⟩ rfl (fun j i h => by rcases h with rfl | rfl | rfl <;> rfl) (fun j i h => by rcases h with rfl | rfl <;> rfl) (fun r => rfl)
theorem q_token {l : Launch} {G : eG} {ad : Nat → Nat → Nat} {h : hp} {g : mS} {T : Nat → tC3} {X Y : Nat → pA} {z1 : Int32} {z2 : Int32} {z3 : Int32} {z4 : Int32} (hlf : l.stackTraces = false) (m : co G ad g h) (A : AI g) (k : lnk G ad h g T X Y) (c1 : cToken g z1 z2 z3 z4 = 0) : kQ l G ad g h yX6_token cX6_token 6 (Option.some Jvm.ClassFile.FieldType.int) { frames := 7, cells := 5, slots := 30, locals := 112 } [.int z1, .int z2, .int z3, .int z4] (fun v g' => v = some (.int (nI (rToken g z1 z2 z3 z4))) ∧ (∀ j i, j < 22 → mN g' j i = mN (tApp g (tn z1) (tn z2) (tn z3) (tn z4)) j i) ∧ (∀ j i, j < 22 → mB g' j i = mB (tApp g (tn z1) (tn z2) (tn z3) (tn z4)) j i) ∧ (∀ k, k ≠ 0 → mK g' k = mK g k) ∧ (∀ i, mI g' 20 i = mI g 20 i)) (fun _ => False) := by
  refine ⟨_, _, k_token hlf m A.1, fun E g' q => ?_, fun v g9 h9 q hF => ?_⟩
  · obtain ⟨e, -⟩ := q; rcases e with ⟨-, e⟩ | ⟨-, e⟩ | ⟨-, e⟩ <;> (rw [c1] at e; cases e)
  · obtain ⟨rfl, rfl, c0⟩ := q
    refine ⟨_, step_token A k hF c0, rfl, fun j i h => ?_, fun j i h => ?_, fun j h => ?_, fun i => ?_⟩
    · rw [mg_N, if_pos (by omega), tToken, if_pos c0]; rfl
    · rw [mg_B, if_pos (by omega), tToken, if_pos c0]; rfl
    · rw [mg_K, tToken, if_pos c0]; split
      · exact if_neg h
      · rfl
    · rw [tToken, if_pos c0]; rfl
theorem q_end {l : Launch} {G : eG} {ad : Nat → Nat → Nat} {h : hp} {g : mS} {T : Nat → tC3} {X Y : Nat → pA} {z1 : Int32} {z2 : Bool} (hlf : l.stackTraces = false) (m : co G ad g h) (A : AI g) (k : lnk G ad h g T X Y) (c1 : cEnd g z1 = 0) : kQ l G ad g h yX6_end cX6_end 4 (Option.some Jvm.ClassFile.FieldType.int) { frames := 7, cells := 2, slots := 12, locals := 111 } [.int z1, .int (bI z2)] (fun v g' => v = some (.int (nI (rEnd g z1))) ∧ (∀ j i, mN g' j i = mN g j i) ∧ (∀ i, mB g' 5 i = if i = tn z1 then true else mB g 5 i) ∧ (∀ i, mB g' 6 i = if i = tn z1 then (mB g 6 (tn z1) || z2) else mB g 6 i) ∧ (∀ k, k ≠ 0 → mK g' k = mK g k) ∧ (∀ i, mI g' 20 i = mI g 20 i)) (fun _ => False) := by
  refine ⟨_, _, k_end hlf m A.1, fun E g' q => ?_, fun v g9 h9 q hF => ?_⟩
  · obtain ⟨e, -⟩ := q; rcases e with ⟨-, e⟩ | ⟨-, e⟩ <;> (rw [c1] at e; cases e)
  · obtain ⟨rfl, rfl, c0⟩ := q
    refine ⟨_, step_end A k hF c0, rfl, fun j i => ?_, fun i => ?_, fun i => ?_, fun j h => ?_, fun i => ?_⟩
    · rw [mg_N, tEnd, if_pos c0]; split <;> rfl
    · rw [mg_B, if_pos (by omega), tEnd, if_pos c0, mB_uB, mB_uB]; simp; rfl
    · rw [mg_B, if_pos (by omega), tEnd, if_pos c0, mB_uB, mB_uB]; simp; rfl
    · rw [mg_K, tEnd, if_pos c0]; split
      · exact if_neg h
      · rfl
    · rw [tEnd, if_pos c0]; rfl
theorem q_align {l : Launch} {G : eG} {ad : Nat → Nat → Nat} {h : hp} {g : mS} {T : Nat → tC3} {X Y : Nat → pA} {z1 : Int32} {z2 : Int32} (hlf : l.stackTraces = false) (m : co G ad g h) (A : AI g) (k : lnk G ad h g T X Y) (c1 : cAlign g z1 z2 = 0) : kQ l G ad g h yX6_align cX6_align 5 (Option.some Jvm.ClassFile.FieldType.int) { frames := 6, cells := 1, slots := 6, locals := 90 } [.int z1, .int z2] (fun v g' => v = some (.int (nI (mK (tAl2 g (tn z1) (tn z2)) 40))) ∧ mK g' 40 = mK (tAl2 g (tn z1) (tn z2)) 40 ∧ (∀ i, mN g' 53 i = mN (tAl2 g (tn z1) (tn z2)) 53 i) ∧ (∀ j i, j < 22 → j ≠ 7 → mN g' j i = mN g j i) ∧ (∀ j i, j < 22 → mB g' j i = mB g j i) ∧ (mK g' 15 = mK g 15 ∧ mK g' 16 = mK g 16) ∧ (∀ i, mI g' 20 i = mI g 20 i)) (fun _ => False) := by
  refine ⟨_, _, k_align hlf m A.1 A.2.2.1, fun E g' q => ?_, fun v g9 h9 q hF => ?_⟩
  · obtain ⟨⟨-, e⟩, -⟩ := q; rw [c1] at e; cases e
  · obtain ⟨rfl, rfl, c0⟩ := q
    refine ⟨_, (step_align A k hF c0).1, rfl, rfl, fun i => rfl, fun j i h h7 => ?_, fun j i h => ?_, ?_, fun i => ?_⟩
    · rw [mg_N, if_pos (by omega), tAlign, if_pos c0, mN_uN, if_neg (fun z => h7 z.1)]; rfl
    · rw [mg_B, if_pos (by omega), tAlign, if_pos c0]; rfl
    · rw [mg_K, mg_K, tAlign, if_pos c0]; exact ⟨rfl, rfl⟩
    · rw [tAlign, if_pos c0]; rfl
theorem q_run {l : Launch} {G : eG} {ad : Nat → Nat → Nat} {h : hp} {g : mS} {T : Nat → tC3} {X Y : Nat → pA} {z1 : Int32} {z2 : Int32} {z3 : Int32} {z4 : Int32} {z5 : Bool} (hlf : l.stackTraces = false) (m : co G ad g h) (A : AI g) (k : lnk G ad h g T X Y) (c1 : cRun g z1 z2 z3 z4 = 0) : kQ l G ad g h yX6_run cX6_run 11 (Option.some Jvm.ClassFile.FieldType.int) { frames := 7, cells := 4, slots := 24, locals := 152 } [.int z1, .int z2, .int z3, .int z4, .int (bI z5)] (fun v g' => v = some (.int (nI (mSize g' (tn z1)))) ∧ resR g g' ∧ (∀ i, mI g' 20 i = if i = tn z1 then nI (tn z3) else mI g 20 i) ∧ ∀ i, mN g' 21 i = crF g (tn z1) (tn z2) (tn z3) (tn z4) z5 (mN g 1 (tn z3)) i) (fun _ => False) := by
  refine ⟨_, _, k_run hlf m A.1 A.2.2.2.2.1 k.pt, fun E g' q => ?_, fun v g9 h9 q hF => ?_⟩
  · obtain ⟨e, -⟩ := q; rcases e with ⟨-, e⟩ | ⟨-, e⟩ <;> (rw [c1] at e; cases e)
  · obtain ⟨rfl, c0, f8, k8, b8, rfl, hq8⟩ := q
    obtain ⟨s1, s2⟩ := step_run (f9 := fun _ => 0) (kq := k8) (bq := b8) A k hF c0 hq8
    refine ⟨_, s1, ?_, ?_, fun i => ?_, fun i => ?_⟩
    · rw [← s2, rRun, if_pos c0]; rfl
    · rw [tRun, if_pos c0]
      exact res_mg (fun j h _ => if_neg h) (fun j h h0 => (wst_rd.1 j h).trans (if_neg h0)) (fun j i h h1 _ => by show mN (sN _ 21 _) j i = _; rw [mN_sN, if_neg h1]; rfl) (fun j i h h2 h3 h4 _ => by rw [wst_rd.2.1 j i h]; show mN (sN _ 21 _) j i = _; rw [mN_sN, if_neg h4]; show mN (uN _ 54 _ _) j i = _; rw [mN_uN, if_neg (fun z => h3 z.1)]; rfl) (fun j i _ => rfl) (fun j i h h2 h3 _ => by rw [wst_rd.2.2.1 j i h h2]; show (if j = 32 ∧ i = tn z1 then _ else _) = _; rw [if_neg (fun z => h3 z.1)]; rfl) (fun j i h h2 _ => by rw [mI_sI, if_neg h]; show (if j = 20 ∧ i = tn z1 then _ else _) = _; rw [if_neg (fun z => h2 z.1)]; rfl) (fun j i h _ => by rw [wst_rd.2.2.2 j i]; show (if j = 20 ∧ i = tn z1 then _ else _) = _; rw [if_neg (fun z => h z.1)]; rfl)
    · rw [tRun, if_pos c0]; show (if 20 = 20 ∧ i = tn z1 then _ else _) = _; simp; rfl
    · rw [tRun, if_pos c0]
      show ruF g (tn z1) (tn z2) (tn z3) (tn z4) z5 40 i = _
      obtain ⟨e1, e2⟩ := cRun_ok c0
      rw [cr_ru (A.1.1 _ e2)]
theorem q_join {l : Launch} {G : eG} {ad : Nat → Nat → Nat} {h : hp} {g : mS} {T : Nat → tC3} {X Y : Nat → pA} {z1 : Int32} {z2 : Int32} {z3 : Int32} (hlf : l.stackTraces = false) (m : co G ad g h) (A : AI g) (k : lnk G ad h g T X Y) (c1 : cJoin g z1 z2 z3 = 0) : kQ l G ad g h yX6_join cX6_join 7 (Option.some Jvm.ClassFile.FieldType.int) { frames := 7, cells := 4, slots := 24, locals := 112 } [.int z1, .int z2, .int z3] (fun v g' => v = some (.int (nI (mSize g' (tn z1)))) ∧ resR g g' ∧ (∀ i, mI g' 20 i = mI g 20 i) ∧ ∀ i, mN g' 21 i = joF g (tn z1) (tn z2) (tn z3) 40 i) (fun _ => False) := by
  refine ⟨_, _, k_join hlf m A.1 A.2.1, fun E g' q => ?_, fun v g9 h9 q hF => ?_⟩
  · obtain ⟨e, -⟩ := q; rcases e with ⟨-, e⟩ | ⟨-, e⟩ | ⟨-, e⟩ <;> (rw [c1] at e; cases e)
  · obtain ⟨rfl, rfl, c0⟩ := q
    refine ⟨_, step_join A k hF c0, ?_, ?_, fun i => ?_, fun i => ?_⟩
    · rw [rJoin, if_pos c0]; rfl
    all_goals rw [tJoin, if_pos c0]
    · exact res_mg (fun j h _ => if_neg h) (fun j h h0 => if_neg h0) (fun j i h h1 _ => by show mN (sN _ 21 _) j i = _; rw [mN_sN, if_neg h1]; rfl) (fun j i h h2 h3 h4 _ => by show mN (sN _ 21 _) j i = _; rw [mN_sN, if_neg h4]; rfl) (fun j i _ => rfl) (fun j i h h2 h3 _ => rfl) (fun j i h h2 _ => rfl) (fun j i h _ => rfl)
    · rfl
    · rfl
theorem q_thin {l : Launch} {G : eG} {ad : Nat → Nat → Nat} {h : hp} {g : mS} {T : Nat → tC3} {X Y : Nat → pA} {z1 : Int32} (hlf : l.stackTraces = false) (m : co G ad g h) (A : AI g) (k : lnk G ad h g T X Y) (c1 : mIsR g z1 = true) : kQ l G ad g h yX6_thin cX6_thin 6 (Option.some Jvm.ClassFile.FieldType.int) { frames := 7, cells := 1, slots := 6, locals := 111 } [.int z1] (fun v g' => v = some (.int (nI (mSize g' (tn z1)))) ∧ resR g g' ∧ (∀ i, mI g' 20 i = mI g 20 i) ∧ ∀ i, mN g' 21 i = thF g (tn z1) 40 i) (fun _ => False) := by
  refine ⟨_, _, k_thin hlf m A.1 A.2.1, fun E g' q => ?_, fun v g9 h9 q hF => ?_⟩
  · obtain ⟨⟨-, e⟩, -⟩ := q; rw [cWR, if_pos c1] at e; cases e
  · obtain ⟨rfl, rfl, c0⟩ := q
    refine ⟨_, step_thin A k hF c0, ?_, ?_, fun i => ?_, fun i => ?_⟩
    · rw [rThin, if_pos c0]; rfl
    all_goals rw [tThin, if_pos c0]
    · exact res_mg (fun j h _ => if_neg h) (fun j h h0 => if_neg h0) (fun j i h h1 _ => by show mN (sN _ 21 _) j i = _; rw [mN_sN, if_neg h1]; rfl) (fun j i h h2 h3 h4 _ => by show mN (sN _ 21 _) j i = _; rw [mN_sN, if_neg h4]; rfl) (fun j i _ => rfl) (fun j i h h2 h3 _ => rfl) (fun j i h h2 _ => rfl) (fun j i h _ => rfl)
    · rfl
    · rfl
theorem q_aligned {l : Launch} {G : eG} {ad : Nat → Nat → Nat} {h : hp} {g : mS} {T : Nat → tC3} {X Y : Nat → pA} {z1 : Int32} {z2 : Int32} {z3 : Bool} (hlf : l.stackTraces = false) (m : co G ad g h) (A : AI g) (k : lnk G ad h g T X Y) (c1 : cAl g z1 z2 = 0) : kQ l G ad g h yX6_aligned cX6_aligned 11 (Option.some Jvm.ClassFile.FieldType.int) { frames := 7, cells := 2, slots := 12, locals := 179 } [.int z1, .int z2, .int (bI z3)] (fun v g' => v = some (.int (nI (mSize g' (tn z1)))) ∧ resR g g' ∧ (∀ i, mI g' 20 i = mI g 20 i) ∧ ∀ i, mN g' 21 i = alF g (tn z1) (tn z2) z3 40 i) (fun _ => False) := by
  refine ⟨_, _, k_aligned hlf m A.1 A.2.1 A.2.2.1 A.2.2.2.1 A.2.2.2.2.1 k.pt, fun E g' q => ?_, fun v g9 h9 q hF => ?_⟩
  · obtain ⟨⟨-, e⟩, -⟩ := q; rw [c1] at e; cases e
  · obtain ⟨rfl, c0, f8, k8, b8, rfl, hq8⟩ := q
    refine ⟨_, step_aligned (f9 := fun _ => 0) A k hF c0 hq8, ?_, ?_, fun i => ?_, fun i => ?_⟩
    · rw [rAl, if_pos c0]; rfl
    all_goals rw [tAl, if_pos c0]
    · exact res_mg (fun j h _ => if_neg h) (fun j h h0 => (wst_rd.1 j h).trans (if_neg h0)) (fun j i h h1 _ => by show mN (sN _ 21 _) j i = _; rw [mN_sN, if_neg h1]; rfl) (fun j i h h2 h3 h4 _ => by rw [wst_rd.2.1 j i h]; show mN (sN _ 21 _) j i = _; rw [mN_sN, if_neg h4]; rfl) (fun j i _ => rfl) (fun j i h h2 h3 _ => wst_rd.2.2.1 j i h h2) (fun j i h h2 _ => by rw [mI_sI, if_neg h]; rfl) (fun j i h _ => rfl)
    · rfl
    · rfl
theorem q_drop {l : Launch} {G : eG} {ad : Nat → Nat → Nat} {h : hp} {g : mS} {T : Nat → tC3} {X Y : Nat → pA} {z1 : Int32} (hlf : l.stackTraces = false) (m : co G ad g h) (A : AI g) (k : lnk G ad h g T X Y) (c1 : mIsR g z1 = true) : kQ l G ad g h yX6_drop cX6_drop 3 (Option.some Jvm.ClassFile.FieldType.int) { frames := 7, cells := 1, slots := 6, locals := 111 } [.int z1] (fun v g' => v = some (.int (nI (mSize g (tn z1)))) ∧ resR g g' ∧ ∀ i, mI g' 20 i = if i = tn z1 then -1 else mI g 20 i) (fun _ => False) := by
  refine ⟨_, _, k_drop hlf m A.1 A.2.1, fun E g' q => ?_, fun v g9 h9 q hF => ?_⟩
  · obtain ⟨⟨-, e⟩, -⟩ := q; rw [cWR, if_pos c1] at e; cases e
  · obtain ⟨rfl, rfl, c0⟩ := q
    refine ⟨_, step_drop A k hF c0, ?_, ?_, fun i => ?_⟩
    · rw [rDrop, if_pos c0]
    all_goals rw [tDrop, if_pos c0]
    · exact res_mg (fun j h _ => if_neg h) (fun j h h0 => rfl) (fun j i h h1 _ => rfl) (fun j i h h2 h3 h4 _ => rfl) (fun j i _ => rfl) (fun j i h h2 h3 _ => by show (if j = 32 ∧ i = tn z1 then _ else _) = _; rw [if_neg (fun z => h3 z.1)]; rfl) (fun j i h h2 _ => by show (if j = 20 ∧ i = tn z1 then _ else _) = _; rw [if_neg (fun z => h2 z.1)]; rfl) (fun j i h _ => rfl)
    · show (if 20 = 20 ∧ i = tn z1 then _ else _) = _; simp; rfl
