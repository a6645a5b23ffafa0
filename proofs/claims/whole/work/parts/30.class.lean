/-! the class's worlds: its roots by kind and number; a state of numbers says what they hold; parts and tests lie beside them and never change -/
def cOk (k i : Nat) : Bool := match k with
  | 0 | 1 | 2 | 3 | 4 | 5 | 6 | 7 | 8 => decide (i = 0)
  | 10 | 11 | 12 | 13 | 14 => decide (i < 2)
  | 20 | 21 => decide (i < 8)
  | _ => false
def dec (x : Nat) : Option Nat := match x with
  | 0 => none
  | a + 1 => some a
def wy (g : mS) : Nat := if mB g 3 0 = true then 8 else 7
def wz (g : mS) : Nat := if mB g 3 0 = true then 7 else 8
def cMain (ad : Nat → Nat → Nat) (g : mS) : List Value := [.ref (ad 1 0), .int (nI (mK g 0)), .ref (ad 2 0), .int (nI (mK g 1)), .ref (ad 3 0), .int (nI (mK g 2)), .ref (ad 4 0), .ref (ad 5 0), .ref (ad 6 0)]
def cWlk (ad : Nat → Nat → Nat) (g : mS) : List Value := [.ref (ad (wy g) 0), .ref (ad (wz g) 0), .int (nI (mK g 3))]
def cSideO (ad : Nat → Nat → Nat) (g : mS) (s : Nat) : List Value := [.int (nI (mK g (10 + s))), .int (bI (mB g 0 s)), .int (bI (mB g 1 s)), .ref (ad 11 s), .ref (ad 12 s), .ref (ad 13 s), .ref (ad 14 s)]
def cRes (ad : Nat → Nat → Nat) (g : mS) (r : Nat) : List Value := [.int (bI (mB g 2 r)), .int (nI (mK g (20 + r))), .ref (ad 21 r)]
def cc (G : eG) (ad : Nat → Nat → Nat) (g : mS) (k i : Nat) : va_E := match k with
  | 0 => oC 5 (cMain ad g)
  | 1 => aR G 5 2 (fun j => if j < 2 then some (ad 10 j) else none)
  | 2 => aR G 3 8 (fun j => dec (mN g 60 j))
  | 3 => aR G 3 12 (fun j => dec (mN g 61 j))
  | 4 => aR G 4 8 (fun j => if j < 8 then some (ad 20 j) else none)
  | 5 => oC 4 (cWlk ad g)
  | 6 => aI G 100 (fun j => nI (mN g 52 j))
  | 7 => aI G 70 (fun j => nI (mN g 50 j))
  | 8 => aI G 70 (fun j => nI (mN g 51 j))
  | 10 => oC 2 (cSideO ad g i)
  | 11 => aI G 120 (fun j => nI (mN g (100 + i) j))
  | 12 => aI G 40 (fun j => nI (mN g (110 + i) j))
  | 13 => aI G 40 (fun j => nI (mN g (120 + i) j))
  | 14 => aJ G 40 (fun j => lN (mN g (130 + i) j))
  | 20 => oC 1 (cRes ad g i)
  | _ => aI G 40 (fun j => nI (mN g (200 + i) j))
def co (G : eG) (ad : Nat → Nat → Nat) (g : mS) (h : hp) : Prop := (∀ k i, cOk k i = true → h (ad k i) = some (cc G ad g k i)) ∧ ∀ k i k' i', cOk k i = true → cOk k' i' = true → ad k i = ad k' i' → k = k' ∧ i = i'
def nr (ad : Nat → Nat → Nat) (a : Nat) : Prop := ∀ k i, cOk k i = true → a ≠ ad k i
def cfr (ad : Nat → Nat → Nat) (h h' : hp) : Prop := ∀ a e, nr ad a → h a = some e → h' a = some e
theorem cfr_rf {ad : Nat → Nat → Nat} {h : hp} : cfr ad h h := fun _ _ _ e => e
theorem cfr_tr {ad : Nat → Nat → Nat} {h h' h'' : hp} (a : cfr ad h h') (b : cfr ad h' h'') : cfr ad h h'' := fun x e n q => b x e n (a x e n q)
theorem co_put {G : eG} {ad : Nat → Nat → Nat} {g g' : mS} {h : hp} (hc : co G ad g h) {k i : Nat} (hk : cOk k i = true) (ho : ∀ k' i', cOk k' i' = true → ¬ (k' = k ∧ i' = i) → cc G ad g' k' i' = cc G ad g k' i') : co G ad g' (hup h (ad k i) (cc G ad g' k i)) := by
  refine ⟨fun k' i' hk' => ?_, hc.2⟩
  by_cases e : k' = k ∧ i' = i
  · rw [e.1, e.2]; exact hup_s
  · rw [hup_n (fun q => e (hc.2 _ _ _ _ hk' hk q)), hc.1 k' i' hk', ho k' i' hk' e]
theorem cfr_put {ad : Nat → Nat → Nat} {h0 h : hp} {k i : Nat} (hk : cOk k i = true) (e : va_E) (hf : cfr ad h0 h) : cfr ad h0 (hup h (ad k i) e) := fun a x n q => by
  rw [hup_n (n k i hk)]; exact hf a x n q
def VC (G : eG) (x : CX) (ad : Nat → Nat → Nat) (h0 : hp) (g : mS) (n1 n2 pc : Nat) (lv : List (Nat × Value)) (st : List Value) : Prop := ∀ h, co G ad g h → cfr ad h0 h → VV G x n1 n2 h pc lv st
theorem ccN {G : eG} {ad : Nat → Nat → Nat} {g : mS} {r j v : Nat} (k i : Nat) (h : ∀ k' i' z, cOk k' i' = true → (k' = 6 ∧ z = 52 ∨ k' = 7 ∧ z = 50 ∨ k' = 8 ∧ z = 51 ∨ k' = 2 ∧ z = 60 ∨ k' = 3 ∧ z = 61 ∨ k' = 11 ∧ z = 100 + i' ∨ k' = 12 ∧ z = 110 + i' ∨ k' = 13 ∧ z = 120 + i' ∨ k' = 14 ∧ z = 130 + i' ∨ k' = 21 ∧ z = 200 + i') → ¬ (k' = k ∧ i' = i) → z ≠ r) : ∀ k' i', cOk k' i' = true → ¬ (k' = k ∧ i' = i) → cc G ad (uN g r j v) k' i' = cc G ad g k' i' := by
  intro k' i' hk he
  have hn : ∀ z, (k' = 6 ∧ z = 52 ∨ k' = 7 ∧ z = 50 ∨ k' = 8 ∧ z = 51 ∨ k' = 2 ∧ z = 60 ∨ k' = 3 ∧ z = 61 ∨ k' = 11 ∧ z = 100 + i' ∨ k' = 12 ∧ z = 110 + i' ∨ k' = 13 ∧ z = 120 + i' ∨ k' = 14 ∧ z = 130 + i' ∨ k' = 21 ∧ z = 200 + i') → ∀ b, mN (uN g r j v) z b = mN g z b := by
    intro z hz b
    rw [mN_uN, if_neg (fun q => h k' i' z hk hz he q.1)]
  unfold cc
  split <;> first | rfl | (congr 4; funext b; rw [hn _ (by simp)]) | (congr 5; funext b; rw [hn _ (by simp)]) | (congr 6; funext b; rw [hn _ (by simp)]) | (congr 7; funext b; rw [hn _ (by simp)]) | (unfold cOk at hk; exfalso; revert hk; split <;> simp_all) | (have e21 : k' = 21 := (by unfold cOk at hk; split at hk <;> simp_all); subst e21; congr 3; funext b; rw [hn _ (by simp)])
