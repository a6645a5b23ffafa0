/-! the law's world: the class, the reference, the answer's cell -/
theorem lnk.mvN {G : eG} {ad : Nat → Nat → Nat} {h h' : hp} {g : mS} {T : Nat → tC3} {X Y : Nat → pA} (k : lnk G ad h g T X Y) (c : ∀ a e, nr ad a → h a = some e → h' a = some e) : lnk G ad h' g T X Y := by
  have tm : ∀ {a s lb : Nat} {P : Nat → Nat}, tst G ad h a P s lb → tst G ad h' a P s lb := fun ⟨na, p, np, ha, hp⟩ => ⟨na, p, np, c _ _ na ha, c _ _ np hp⟩
  have pm : ∀ {a : Nat} {x : pA} {is : Bool}, prA G ad h a x is → prA G ad h' a x is := fun ⟨na, pt, pn, n1, n2, h1, h2, h3⟩ => ⟨na, pt, pn, n1, n2, c _ _ na h1, c _ _ n1 h2, c _ _ n2 h3⟩
  have km : ∀ {p a1 : Nat} {y : pA} {is : Bool}, pk1 G ad h g T p a1 y is → pk1 G ad h' g T p a1 y is := fun k => ⟨k.1, pm k.2.1, fun j hj => tm (k.2.2.1 j hj), k.2.2.2⟩
  exact ⟨fun i hi => km (k.1 i hi), fun p hp => (fun ⟨is, q⟩ => ⟨is, km q⟩) (k.2 p hp)⟩
theorem stpO.mvN {G : eG} {ad : Nat → Nat → Nat} {h h' : hp} {S' g9 : mS} (k : stpO G ad h S' g9) (c : ∀ a e, nr ad a → h a = some e → h' a = some e) : stpO G ad h' S' g9 := by
  obtain ⟨k1, k2, T, X, Y, k3⟩ := k
  exact ⟨k1, k2, T, X, Y, k3.mvN c⟩
/-- how the three lie -/
def lst (ad : Nat → Nat → Nat) (q : Nat → Nat) (o : Nat) : Prop := nrw ad o ∧ (∀ k, k ≤ 22 → nrw ad (q k)) ∧ (∀ k, k ≤ 22 → o ≠ q k) ∧ (∀ k, k ≤ 22 → ad 100 k = q k) ∧ ad 101 0 = o ∧ ∀ k, k ≤ 22 → mkind k = 0 → q k = q 0
def lge (G : eG) (ad : Nat → Nat → Nat) (q : Nat → Nat) (o : Nat) (g9 g : mS) (f : Nat → Int64) (h : hp) : Prop := co G ad g9 h ∧ mo G q g h ∧ h o = some (aJ G 1 f)
def lwo (G : eG) (ad : Nat → Nat → Nat) (q : Nat → Nat) (o : Nat) (g : mS) (h : hp) : Prop := (∃ f, lge G ad q o g g f h) ∧ AI g ∧ ∃ T X Y, lnk G ad h g T X Y
theorem mo_cfr {G : eG} {ad : Nat → Nat → Nat} {q : Nat → Nat} {o : Nat} {g : mS} {h h' : hp} (s : lst ad q o) (m : mo G q g h) (c : cfr ad h h') : mo G q g h' := ⟨c _ _ (s.2.1 0 (by omega)) m.1, fun k hk h0 => c _ _ (s.2.1 k hk) (m.2.1 k hk h0), m.2.2⟩
theorem lge_cfr {G : eG} {ad : Nat → Nat → Nat} {q : Nat → Nat} {o : Nat} {g9 g g1 : mS} {f : Nat → Int64} {h h' : hp} (s : lst ad q o) (w : lge G ad q o g1 g f h) (c : cfr ad h h') (m : co G ad g9 h') : lge G ad q o g9 g f h' := ⟨m, mo_cfr s w.2.1 c, c _ _ s.1 w.2.2⟩
theorem lge_put {G : eG} {ad : Nat → Nat → Nat} {q : Nat → Nat} {o : Nat} {g9 g : mS} {f f' : Nat → Int64} {h : hp} (s : lst ad q o) (w : lge G ad q o g9 g f h) : lge G ad q o g9 g f' (hup h o (aJ G 1 f')) := by
  refine ⟨⟨fun k i hk => ?_, w.1.2.1, fun k i => ?_⟩, ⟨?_, fun k hk h0 => ?_, w.2.1.2.2⟩, hup_s⟩
  · rw [hup_n (fun z => s.1 k i hk z.symm)]; exact w.1.1 k i hk
  · by_cases e : ad k i = o
    · exact ⟨_, by rw [e]; exact hup_s⟩
    · rw [hup_n e]; exact w.1.2.2 k i
  · rw [hup_n (fun z => s.2.2.1 0 (by omega) z.symm)]; exact w.2.1.1
  · rw [hup_n (fun z => s.2.2.1 k hk z.symm)]; exact w.2.1.2.1 k hk h0
theorem put_nr {ad : Nat → Nat → Nat} {q : Nat → Nat} {o : Nat} {e' : va_E} {h : hp} (s : lst ad q o) : ∀ a e, nr ad a → h a = some e → hup h o e' a = some e := fun a e n z => by
  rw [hup_n (fun y => n 101 0 (by rw [s.2.2.2.2.1]; exact y))]; exact z
theorem mfr_nr {ad : Nat → Nat → Nat} {q : Nat → Nat} {o : Nat} {h h' : hp} (s : lst ad q o) (m : mfr q h h') : ∀ a e, nr ad a → h a = some e → h' a = some e := fun a e n z => by
  rw [m a (fun k hk y => n 100 k (by rw [s.2.2.2.1 k hk]; exact y))]; exact z
/-- what a wrapper of the law gives: a code, the class's new state, and how the reference's answer has to fit -/
def lres (G : eG) (ad : Nat → Nat → Nat) (q : Nat → Nat) (o : Nat) (g : mS) (mp : Option Value → mS → Prop) (v : Option Value) (h' : hp) : Prop := ∃ (c : Nat) (g9 : mS) (f : Nat → Int64), v = some (.int (nI c)) ∧ c < 4 ∧ lge G ad q o g9 g f h' ∧ ∀ v9 T9, mp v9 T9 → mK T9 0 = c ∧ (c = 0 → ∀ a, v9 = some (.int a) → f 0 = a.toInt64) ∧ stpO G ad h' T9 g9
theorem lw_ok {G : eG} {ad : Nat → Nat → Nat} {q : Nat → Nat} {o : Nat} {g g9 : mS} {f : Nat → Int64} {h h1 : hp} {mp : Option Value → mS → Prop} {r : Int32} (s : lst ad q o) (w : lge G ad q o g g f h) (m : co G ad g9 h1) (c : cfr ad h h1) (k : ∀ v9 T9, mp v9 T9 → mK T9 0 = 0 ∧ v9 = some (.int r) ∧ stpO G ad h1 T9 g9) : lres G ad q o g mp (some (.int (nI 0))) (hup h1 o (aJ G 1 (vp_updL f 0 r.toInt64))) :=
  ⟨0, g9, _, rfl, by decide, lge_put s (lge_cfr s w c m), fun v9 T9 e => (fun ⟨a, b, d⟩ => ⟨a, fun _ x hx => by
    rw [b] at hx
    cases hx
    show (if (0 : Nat) = 0 then _ else _) = _
    rw [if_pos rfl], d.mvN (put_nr s)⟩) (k v9 T9 e)⟩
theorem lw_ok0 {G : eG} {ad : Nat → Nat → Nat} {q : Nat → Nat} {o : Nat} {g g9 : mS} {f : Nat → Int64} {h h1 : hp} {mp : Option Value → mS → Prop} (s : lst ad q o) (w : lge G ad q o g g f h) (m : co G ad g9 h1) (c : cfr ad h h1) (k : ∀ v9 T9, mp v9 T9 → mK T9 0 = 0 ∧ v9 = none ∧ stpO G ad h1 T9 g9) : lres G ad q o g mp (some (.int (nI 0))) h1 :=
  ⟨0, g9, f, rfl, by decide, lge_cfr s w c m, fun v9 T9 e => (fun ⟨a, b, d⟩ => ⟨a, fun _ x hx => (by rw [b] at hx; cases hx), d⟩) (k v9 T9 e)⟩
theorem lw_no {G : eG} {ad : Nat → Nat → Nat} {q : Nat → Nat} {o : Nat} {g g9 : mS} {f : Nat → Int64} {h h1 : hp} {mp : Option Value → mS → Prop} {d : Nat} (s : lst ad q o) (w : lge G ad q o g g f h) (m : co G ad g9 h1) (c : cfr ad h h1) (hd : 0 < d ∧ d < 4) (k : ∀ v9 T9, mp v9 T9 → mK T9 0 = d ∧ stpO G ad h1 T9 g9) : lres G ad q o g mp (some (.int (nI d))) h1 :=
  ⟨d, g9, f, rfl, hd.2, lge_cfr s w c m, fun v9 T9 e => (fun ⟨a, b⟩ => ⟨a, fun z => absurd z (by omega), b⟩) (k v9 T9 e)⟩
/-- a call that changes nothing, and a throw -/
theorem step_K {G : eG} {ad : Nat → Nat → Nat} {h h9 : hp} {g : mS} {T : Nat → tC3} {X Y : Nat → pA} {c : Nat} (A : AI g) (k : lnk G ad h g T X Y) (F : cfr ad h h9) : stpO G ad h9 (uK g 0 c) g := step_no A k F (fun j hj => if_neg hj) (fun _ _ _ => rfl) (fun _ _ => rfl) (fun _ _ _ => rfl) (fun _ _ => rfl) (fun _ _ _ _ => rfl) (fun _ _ _ _ => rfl) A.2.2.2.2.1
theorem step_KI {G : eG} {ad : Nat → Nat → Nat} {h h9 : hp} {g : mS} {T : Nat → tC3} {X Y : Nat → pA} {c : Nat} {f9 : Nat → Int32} (A : AI g) (k : lnk G ad h g T X Y) (F : cfr ad h h9) : stpO G ad h9 (sI (uK g 0 c) 19 f9) g := step_no A k F (fun j hj => if_neg hj) (fun _ _ _ => rfl) (fun _ _ => rfl) (fun j i hj => by rw [mI_sI, if_neg hj]; rfl) (fun _ _ => rfl) (fun _ _ _ _ => rfl) (fun _ _ _ _ => rfl) A.2.2.2.2.1
theorem step_KN {G : eG} {ad : Nat → Nat → Nat} {h h9 : hp} {g g9 : mS} {T : Nat → tC3} {X Y : Nat → pA} {c : Nat} {f9 f : Nat → Nat} (A : AI g) (k : lnk G ad h g T X Y) (F : cfr ad h h9) (e : g9 = sN g 52 f) : stpO G ad h9 (sN (uK g 0 c) 22 f9) g9 := by
  subst e
  exact step_no A k F (fun j hj => if_neg hj) (fun j i hj => by rw [mN_sN, if_neg hj]; rfl) (fun _ _ => rfl) (fun _ _ _ => rfl) (fun _ _ => rfl) (fun j i _ hj => by rw [mN_sN, if_neg hj]) (fun _ _ _ _ => rfl) ⟨A.2.2.2.2.1.1, fun z hz => by rw [mN_sN, if_neg (by decide)]; exact A.2.2.2.2.1.2 z hz⟩
theorem step_KN0 {G : eG} {ad : Nat → Nat → Nat} {h h9 : hp} {g : mS} {T : Nat → tC3} {X Y : Nat → pA} {c : Nat} {f9 : Nat → Nat} (A : AI g) (k : lnk G ad h g T X Y) (F : cfr ad h h9) : stpO G ad h9 (sN (uK g 0 c) 22 f9) g := step_KN (f := fun z => mN g 52 z) A k F (mS_ext (fun _ => rfl) (fun j i => by
  rw [mN_sN]; split
  · rename_i e; rw [e]
  · rfl) (fun _ _ => rfl) (fun _ _ => rfl))
theorem step_Kw {G : eG} {ad : Nat → Nat → Nat} {h h9 : hp} {g : mS} {T : Nat → tC3} {X Y : Nat → pA} {c : Nat} {f9 : Nat → Int32} {f : Nat → Nat} {kq : Nat} {bq : Bool} (A : AI g) (k : lnk G ad h g T X Y) (F : cfr ad h h9) (hq : ∀ z, z < 140 → f z < 4194304) : stpO G ad h9 (sI (uK g 0 c) 19 f9) (wst g f kq bq) := step_no A k F (fun j hj => if_neg hj) (fun _ _ _ => rfl) (fun _ _ => rfl) (fun j i hj => by rw [mI_sI, if_neg hj]; rfl) (fun j hj => if_neg hj) (fun j i hj _ => by
  show (if j = 50 then f else g.2.1 j) i = g.2.1 j i
  rw [if_neg hj]) (fun j i h0 h1 => by
  show (if j = 31 ∧ i = 0 then bq else if j = 30 ∧ i = 0 then bq else mB g j i) = mB g j i
  rw [if_neg (by omega), if_neg (by omega)]) (wInv_wst hq)

