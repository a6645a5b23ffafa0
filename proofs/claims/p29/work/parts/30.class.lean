/-! the class's worlds: its roots by kind and number; the state's rows 1 to 6, 15, 16, 21 are shared with the reference's; 40 pairs, 41 ways, 50 ways, 52 group counts, 53 partners, 54 results' sides, 60 pile, 61 patterns; booleans 30, 31 the walker's arrays, 32 whether a result is there -/
def cOk (k i : Nat) : Bool := match k with
  | 0 | 1 | 2 | 3 | 4 | 5 | 6 => decide (i = 0)
  | 7 | 10 | 11 | 12 | 13 | 14 => decide (i < 2)
  | 20 | 21 => decide (i < 8)
  | _ => false
def dec (x : Nat) : Option Nat := match x with
  | 0 => none
  | a + 1 => some a
def wi (g : mS) : Nat := if mB g 30 0 = true then 1 else 0
def si (g : mS) : Nat := if mB g 31 0 = true then 0 else 1
theorem wi_lt (g : mS) : wi g < 2 := by unfold wi; split <;> decide
theorem si_lt (g : mS) : si g < 2 := by unfold si; split <;> decide
def cMain (ad : Nat → Nat → Nat) (g : mS) : List Value := [.ref (ad 1 0), .int (nI (mK g 40)), .ref (ad 2 0), .int (nI (mK g 16)), .ref (ad 3 0), .int (nI (mK g 15)), .ref (ad 4 0), .ref (ad 5 0), .ref (ad 6 0)]
def cWlk (ad : Nat → Nat → Nat) (g : mS) : List Value := [.ref (ad 7 (wi g)), .ref (ad 7 (si g)), .int (nI (mK g 41))]
def cSideO (ad : Nat → Nat → Nat) (g : mS) (s : Nat) : List Value := [.int (nI (mN g 1 s)), .int (bI (mB g 5 s)), .int (bI (mB g 6 s)), .ref (ad 11 s), .ref (ad 12 s), .ref (ad 13 s), .ref (ad 14 s)]
def cRes (ad : Nat → Nat → Nat) (g : mS) (r : Nat) : List Value := [.int (bI (mB g 32 r)), .int (nI (mN g 54 r)), .ref (ad 21 r)]
/-- a piece of a row -/
def sg (g : mS) (row len stride i : Nat) (j : Nat) : Nat := if j < len then mN g row (stride * i + j) else 0
def ce (G : eG) (ad : Nat → Nat → Nat) (g : mS) (k i : Nat) : va_E := match k with
  | 0 => oC 5 (cMain ad g)
  | 1 => aR G 5 2 (fun j => if j < 2 then some (ad 10 j) else none)
  | 2 => aR G 3 8 (fun j => dec (mN g 60 j))
  | 3 => aR G 3 12 (fun j => dec (mN g 61 j))
  | 4 => aR G 4 8 (fun j => if j < 8 then some (ad 20 j) else none)
  | 5 => oC 4 (cWlk ad g)
  | 6 => aI G 100 (fun j => nI (sg g 52 100 100 i j))
  | 7 => aI G 70 (fun j => nI (sg g 50 70 70 i j))
  | 10 => oC 2 (cSideO ad g i)
  | 11 => aI G 120 (fun j => nI (sg g 2 120 120 i j))
  | 12 => aI G 40 (fun j => nI (sg g 3 40 40 i j))
  | 13 => aI G 40 (fun j => nI (sg g 4 40 40 i j))
  | 14 => aJ G 40 (fun j => lN (sg g 53 40 40 i j))
  | 20 => oC 1 (cRes ad g i)
  | _ => aI G 40 (fun j => nI (sg g 21 40 40 i j))
def co (G : eG) (ad : Nat → Nat → Nat) (g : mS) (h : hp) : Prop := (∀ k i, cOk k i = true → h (ad k i) = some (ce G ad g k i)) ∧ (∀ k i k' i', cOk k i = true → cOk k' i' = true → (ad k i = ad k' i' → k = k' ∧ i = i')) ∧ ∀ k i, ∃ e, h (ad k i) = some e
/-- no root; nor any other place that ad names -/
def nrw (ad : Nat → Nat → Nat) (a : Nat) : Prop := ∀ k i, cOk k i = true → a ≠ ad k i
def nr (ad : Nat → Nat → Nat) (a : Nat) : Prop := ∀ k i, a ≠ ad k i
theorem nr.w {ad : Nat → Nat → Nat} {a : Nat} (n : nr ad a) : nrw ad a := fun k i _ => n k i
/-- what is no root stays -/
def cfr (ad : Nat → Nat → Nat) (h h' : hp) : Prop := ∀ a e, nrw ad a → h a = some e → h' a = some e
theorem cfr_rf {ad : Nat → Nat → Nat} {h : hp} : cfr ad h h := fun _ _ _ e => e
theorem cfr_tr {ad : Nat → Nat → Nat} {h h' h'' : hp} (a : cfr ad h h') (b : cfr ad h' h'') : cfr ad h h'' := fun x e n q => b x e n (a x e n q)
/-- nothing that stands is changed -/
def hle (h h' : hp) : Prop := ∀ a e, h a = some e → h' a = some e
theorem hle_rf {h : hp} : hle h h := fun _ _ e => e
theorem hle_tr {h h' h'' : hp} (a : hle h h') (b : hle h' h'') : hle h h'' := fun x e q => b x e (a x e q)
theorem hle.new {h : hp} {a : Nat} {e : va_E} (n : h a = none) : hle h (hup h a e) := fun b e' q => by
  rw [hup_n (fun z => by rw [z, n] at q; cases q)]; exact q
theorem co.le {G : eG} {ad : Nat → Nat → Nat} {g : mS} {h h' : hp} (c : co G ad g h) (l : hle h h') : co G ad g h' := ⟨fun k i hk => l _ _ (c.1 k i hk), c.2.1, fun k i => (fun ⟨e, q⟩ => ⟨e, l _ _ q⟩) (c.2.2 k i)⟩
theorem cfr.le {ad : Nat → Nat → Nat} {h h' h'' : hp} (c : cfr ad h h') (l : hle h' h'') : cfr ad h h'' := fun a e n q => l a e (c a e n q)
/-- a new place is no root -/
theorem co.nw {G : eG} {ad : Nat → Nat → Nat} {g : mS} {h : hp} (c : co G ad g h) {a : Nat} (n : h a = none) : nr ad a := fun k i z => by
  obtain ⟨e, he⟩ := c.2.2 k i
  rw [z, he] at n; cases n
theorem co.cong {G : eG} {ad : Nat → Nat → Nat} {g g' : mS} {h : hp} (c : co G ad g h) (e : ∀ k i, cOk k i = true → ce G ad g' k i = ce G ad g k i) : co G ad g' h := ⟨fun k i hk => by rw [e k i hk]; exact c.1 k i hk, c.2⟩
theorem co_put {G : eG} {ad : Nat → Nat → Nat} {g g' : mS} {h : hp} (hc : co G ad g h) {k i : Nat} (hk : cOk k i = true) (ho : ∀ k' i', cOk k' i' = true → ¬ (k' = k ∧ i' = i) → ce G ad g' k' i' = ce G ad g k' i') : co G ad g' (hup h (ad k i) (ce G ad g' k i)) := by
  refine ⟨fun k' i' hk' => ?_, hc.2.1, fun k' i' => (by
    by_cases e : ad k' i' = ad k i
    · exact ⟨_, by rw [e]; exact hup_s⟩
    · rw [hup_n e]; exact hc.2.2 k' i')⟩
  by_cases e : k' = k ∧ i' = i
  · rw [e.1, e.2]; exact hup_s
  · rw [hup_n (fun q => e (hc.2.1 _ _ _ _ hk' hk q)), hc.1 k' i' hk', ho k' i' hk' e]
theorem cfr_put {ad : Nat → Nat → Nat} {h0 h : hp} {k i : Nat} (hk : cOk k i = true) (e : va_E) (hf : cfr ad h0 h) : cfr ad h0 (hup h (ad k i) e) := fun a x n q => by
  rw [hup_n (n k i hk)]; exact hf a x n q
/-- the kinds of a root, one by one -/
theorem cOk_cases {k i : Nat} (h : cOk k i = true) : (k = 0 ∧ i = 0) ∨ (k = 1 ∧ i = 0) ∨ (k = 2 ∧ i = 0) ∨ (k = 3 ∧ i = 0) ∨ (k = 4 ∧ i = 0) ∨ (k = 5 ∧ i = 0) ∨ (k = 6 ∧ i = 0) ∨ (k = 7 ∧ i < 2) ∨ (k = 10 ∧ i < 2) ∨ (k = 11 ∧ i < 2) ∨ (k = 12 ∧ i < 2) ∨ (k = 13 ∧ i < 2) ∨ (k = 14 ∧ i < 2) ∨ (k = 20 ∧ i < 8) ∨ (k = 21 ∧ i < 8) := by
  unfold cOk at h
  split at h <;> simp_all
/-- two states that read alike at a root give one cell -/
theorem ce_cong {G : eG} {ad : Nat → Nat → Nat} {g g' : mS} {k i : Nat} (hk : cOk k i = true)
    (hK : (k = 0 → mK g' 40 = mK g 40 ∧ mK g' 16 = mK g 16 ∧ mK g' 15 = mK g 15) ∧ (k = 5 → mK g' 41 = mK g 41 ∧ mB g' 30 0 = mB g 30 0 ∧ mB g' 31 0 = mB g 31 0) ∧ (k = 10 → mN g' 1 i = mN g 1 i ∧ mB g' 5 i = mB g 5 i ∧ mB g' 6 i = mB g 6 i) ∧ (k = 20 → mB g' 32 i = mB g 32 i ∧ mN g' 54 i = mN g 54 i))
    (hN : (k = 2 → ∀ j, mN g' 60 j = mN g 60 j) ∧ (k = 3 → ∀ j, mN g' 61 j = mN g 61 j) ∧ (k = 6 → ∀ j, j < 100 → mN g' 52 (100 * i + j) = mN g 52 (100 * i + j)) ∧ (k = 7 → ∀ j, j < 70 → mN g' 50 (70 * i + j) = mN g 50 (70 * i + j)) ∧ (k = 11 → ∀ j, j < 120 → mN g' 2 (120 * i + j) = mN g 2 (120 * i + j)) ∧ (k = 12 → ∀ j, j < 40 → mN g' 3 (40 * i + j) = mN g 3 (40 * i + j)) ∧ (k = 13 → ∀ j, j < 40 → mN g' 4 (40 * i + j) = mN g 4 (40 * i + j)) ∧ (k = 14 → ∀ j, j < 40 → mN g' 53 (40 * i + j) = mN g 53 (40 * i + j)) ∧ (k = 21 → ∀ j, j < 40 → mN g' 21 (40 * i + j) = mN g 21 (40 * i + j))) : ce G ad g' k i = ce G ad g k i := by
  have sgc : ∀ {row len stride}, (∀ j, j < len → mN g' row (stride * i + j) = mN g row (stride * i + j)) → sg g' row len stride i = sg g row len stride i := fun hh => by
    funext j; unfold sg; split
    · exact hh j (by assumption)
    · rfl
  obtain ⟨a1, a2, a3, a4⟩ := hK
  obtain ⟨b1, b2, b3, b4, b5, b6, b7, b8, b9⟩ := hN
  rcases cOk_cases hk with ⟨rfl, _⟩ | ⟨rfl, _⟩ | ⟨rfl, _⟩ | ⟨rfl, _⟩ | ⟨rfl, _⟩ | ⟨rfl, _⟩ | ⟨rfl, _⟩ | ⟨rfl, _⟩ | ⟨rfl, _⟩ | ⟨rfl, _⟩ | ⟨rfl, _⟩ | ⟨rfl, _⟩ | ⟨rfl, _⟩ | ⟨rfl, _⟩ | ⟨rfl, _⟩
  · obtain ⟨x, y, z⟩ := a1 rfl; simp only [ce, cMain, x, y, z]
  · rfl
  · simp only [ce, b1 rfl]
  · simp only [ce, b2 rfl]
  · rfl
  · obtain ⟨x, y, z⟩ := a2 rfl; simp only [ce, cWlk, wi, si, x, y, z]
  · simp only [ce, sgc (b3 rfl)]
  · simp only [ce, sgc (b4 rfl)]
  · obtain ⟨x, y, z⟩ := a3 rfl; simp only [ce, cSideO, x, y, z]
  · simp only [ce, sgc (b5 rfl)]
  · simp only [ce, sgc (b6 rfl)]
  · simp only [ce, sgc (b7 rfl)]
  · simp only [ce, sgc (b8 rfl)]
  · obtain ⟨x, y⟩ := a4 rfl; simp only [ce, cRes, x, y]
  · simp only [ce, sgc (b9 rfl)]
def VC (G : eG) (x : CX) (ad : Nat → Nat → Nat) (h0 : hp) (g : mS) (n1 n2 pc : Nat) (lv : List (Nat × Value)) (st : List Value) : Prop := ∀ h, co G ad g h → cfr ad h0 h → VV G x n1 n2 h pc lv st
/-- the rows that are kept in arrays of numbers: kind, row, length, step -/
def ik (k : Nat) : Option (Nat × Nat × Nat) := match k with
  | 6 => some (52, 100, 100)
  | 7 => some (50, 70, 70)
  | 11 => some (2, 120, 120)
  | 12 => some (3, 40, 40)
  | 13 => some (4, 40, 40)
  | 21 => some (21, 40, 40)
  | _ => none
theorem ce_ik {G : eG} {ad : Nat → Nat → Nat} {g : mS} {k i row len st : Nat} (h : ik k = some (row, len, st)) : ce G ad g k i = aI G len (fun j => nI (sg g row len st i j)) := by
  unfold ik at h
  split at h <;> cases h <;> rfl
theorem ik_len {k row len st : Nat} (h : ik k = some (row, len, st)) : len < 2147483648 ∧ st = len := by
  unfold ik at h
  split at h <;> cases h <;> decide
theorem sg_in {g : mS} {row len st i j : Nat} (h : j < len) : sg g row len st i j = mN g row (st * i + j) := if_pos h
/-- a write into one array of numbers keeps the other roots -/
theorem ik_oth {G : eG} {ad : Nat → Nat → Nat} {g : mS} {k i row len st j v : Nat} (h : ik k = some (row, len, st)) (hj : j < len) : ∀ k' i', cOk k' i' = true → ¬ (k' = k ∧ i' = i) → ce G ad (uN g row (st * i + j) v) k' i' = ce G ad g k' i' := by
  intro k' i' hk he
  have key : ∀ r j', (r = row → len * i' + j' = len * i + j → i' = i ∨ len ≤ j') → True := fun _ _ _ => trivial
  have hne : i' ≠ i → ∀ j', j' < len → ¬ (len * i' + j' = len * i + j) := by
    intro hi j' hj' q
    have h1 := congrArg (· / len) q
    simp only [Nat.mul_add_div (by omega : 0 < len), Nat.div_eq_of_lt hj', Nat.div_eq_of_lt hj, Nat.add_zero] at h1
    exact hi h1
  have hst := (ik_len h).2
  subst hst
  unfold ik at h
  split at h <;> cases h <;> refine ce_cong hk ⟨fun _ => ⟨rfl, rfl, rfl⟩, fun _ => ⟨rfl, rfl, rfl⟩, fun _ => ⟨rfl, rfl, rfl⟩, fun _ => ⟨rfl, rfl⟩⟩ ⟨fun e j' => ?_, fun e j' => ?_, fun e j' z => ?_, fun e j' z => ?_, fun e j' z => ?_, fun e j' z => ?_, fun e j' z => ?_, fun e j' z => ?_, fun e j' z => ?_⟩ <;> rw [mN_uN] <;> first | exact if_neg (fun q => absurd q.1 (by decide)) | exact if_neg (fun q => hne (fun y => he ⟨e, y⟩) j' z q.2)
theorem ik_self {G : eG} {ad : Nat → Nat → Nat} {g : mS} {k i row len st j v : Nat} (h : ik k = some (row, len, st)) (hj : j < len) : ce G ad (uN g row (st * i + j) v) k i = aI G len (upd (fun j => nI (sg g row len st i j)) j (nI v)) := by
  rw [ce_ik h]
  congr 3
  funext b
  show nI (sg (uN g row (st * i + j) v) row len st i b) = upd (fun j => nI (sg g row len st i j)) j (nI v) b
  unfold upd sg
  by_cases e : b = j
  · subst e; simp [hj, mN_uN]
  · rw [if_neg e]
    show nI (if b < len then mN (uN g row (st * i + j) v) row (st * i + b) else 0) = nI (if b < len then mN g row (st * i + b) else 0)
    split
    · rw [mN_uN, if_neg (fun q => e (by omega))]
    · rfl

section KROWS
variable {G : eG} {x : CX} {ad : Nat → Nat → Nat} {h0 : hp} {g : mS} {n1 n2 : Nat} {pc nx : Nat} {lv : List (Nat × Value)} {st : List Value} {own : String} {cc : ByteArray} {rm : Room} {nL : Nat}
theorem c_iconst (C : cxOk G own cc rm nL x) {i : Int} {v : Int32} (d : dn cc pc (.iconst i) 1 nx) (hv : Int32.ofInt i = v) (kk : VC G x ad h0 g n1 n2 nx lv (.int v :: st)) : VC G x ad h0 g n1 n2 pc lv (st) := fun h hm hf => r_iconst C d hv (kk h hm hf)
theorem c_bipush (C : cxOk G own cc rm nL x) {i : Int} {v : Int32} (d : dn cc pc (.bipush i) 2 nx) (hv : (Int8.ofInt i).toInt32 = v) (kk : VC G x ad h0 g n1 n2 nx lv (.int v :: st)) : VC G x ad h0 g n1 n2 pc lv (st) := fun h hm hf => r_bipush C d hv (kk h hm hf)
theorem c_sipush (C : cxOk G own cc rm nL x) {i : Int} {v : Int32} (d : dn cc pc (.sipush i) 3 nx) (hv : (Int16.ofInt i).toInt32 = v) (kk : VC G x ad h0 g n1 n2 nx lv (.int v :: st)) : VC G x ad h0 g n1 n2 pc lv (st) := fun h hm hf => r_sipush C d hv (kk h hm hf)
theorem c_lconst (C : cxOk G own cc rm nL x) {i : Fin 2} {v : Int64} (d : dn cc pc (.lconst i) 1 nx) (hv : Int64.ofNat (i : Nat) = v) (kk : VC G x ad h0 g n1 n2 nx lv (.long v :: st)) : VC G x ad h0 g n1 n2 pc lv (st) := fun h hm hf => r_lconst C d hv (kk h hm hf)
theorem c_null (C : cxOk G own cc rm nL x) (d : dn cc pc (.aconst_null) 1 nx)  (kk : VC G x ad h0 g n1 n2 nx lv (.null :: st)) : VC G x ad h0 g n1 n2 pc lv (st) := fun h hm hf => r_null C d (kk h hm hf)
theorem c_ldc (C : cxOk G own cc rm nL x) {i : Nat} {v : Int32} (d : dn cc pc (.ldc i) 2 nx) (hc : Jvm.Cond.constant own i v ∈ TB) (kk : VC G x ad h0 g n1 n2 nx lv (.int v :: st)) : VC G x ad h0 g n1 n2 pc lv (st) := fun h hm hf => r_ldc C d hc (kk h hm hf)
theorem c_ldc2 (C : cxOk G own cc rm nL x) {i : Nat} {v : Int64} (d : dn cc pc (.ldc2_w i) 3 nx) (hc : Jvm.Cond.constantLong own i v ∈ TB) (kk : VC G x ad h0 g n1 n2 nx lv (.long v :: st)) : VC G x ad h0 g n1 n2 pc lv (st) := fun h hm hf => r_ldc2 C d hc (kk h hm hf)
theorem c_iload_n (C : cxOk G own cc rm nL x) {i : Fin 4} {v : Int32} (d : dn cc pc (.iload_n i) 1 nx) (j : Nat) (hk : lv[j]? = some ((i : Nat), .int v)) (kk : VC G x ad h0 g n1 n2 nx lv (.int v :: st)) : VC G x ad h0 g n1 n2 pc lv (st) := fun h hm hf => r_iload_n C d j hk (kk h hm hf)
theorem c_iload (C : cxOk G own cc rm nL x) {i : Nat} {v : Int32} (d : dn cc pc (.iload i) 2 nx) (j : Nat) (hk : lv[j]? = some (i, .int v)) (kk : VC G x ad h0 g n1 n2 nx lv (.int v :: st)) : VC G x ad h0 g n1 n2 pc lv (st) := fun h hm hf => r_iload C d j hk (kk h hm hf)
theorem c_lload_n (C : cxOk G own cc rm nL x) {i : Fin 4} {v : Int64} (d : dn cc pc (.lload_n i) 1 nx) (j : Nat) (hk : lv[j]? = some ((i : Nat), .long v)) (kk : VC G x ad h0 g n1 n2 nx lv (.long v :: st)) : VC G x ad h0 g n1 n2 pc lv (st) := fun h hm hf => r_lload_n C d j hk (kk h hm hf)
theorem c_lload (C : cxOk G own cc rm nL x) {i : Nat} {v : Int64} (d : dn cc pc (.lload i) 2 nx) (j : Nat) (hk : lv[j]? = some (i, .long v)) (kk : VC G x ad h0 g n1 n2 nx lv (.long v :: st)) : VC G x ad h0 g n1 n2 pc lv (st) := fun h hm hf => r_lload C d j hk (kk h hm hf)
theorem c_aload_n (C : cxOk G own cc rm nL x) {i : Fin 4} {v : Nat} (d : dn cc pc (.aload_n i) 1 nx) (j : Nat) (hk : lv[j]? = some ((i : Nat), .ref v)) (kk : VC G x ad h0 g n1 n2 nx lv (.ref v :: st)) : VC G x ad h0 g n1 n2 pc lv (st) := fun h hm hf => r_aload_n C d j hk (kk h hm hf)
theorem c_aload (C : cxOk G own cc rm nL x) {i : Nat} {v : Nat} (d : dn cc pc (.aload i) 2 nx) (j : Nat) (hk : lv[j]? = some (i, .ref v)) (kk : VC G x ad h0 g n1 n2 nx lv (.ref v :: st)) : VC G x ad h0 g n1 n2 pc lv (st) := fun h hm hf => r_aload C d j hk (kk h hm hf)
theorem c_istore_n (C : cxOk G own cc rm nL x) {i : Fin 4} {v : Int32} (d : dn cc pc (.istore_n i) 1 nx) {lv' : List (Nat × Value)} (hn : (i : Nat) < nL) (hl2 : ((i : Nat), Value.int v) :: lv.filter (fun q => !(q.1 == (i : Nat)) && !(q.1 + 1 == (i : Nat) && q.2.category == 2)) = lv') (kk : VC G x ad h0 g n1 n2 nx lv' (st)) : VC G x ad h0 g n1 n2 pc lv (.int v :: st) := fun h hm hf => r_istore_n C d hn hl2 (kk h hm hf)
theorem c_istore (C : cxOk G own cc rm nL x) {i : Nat} {v : Int32} (d : dn cc pc (.istore i) 2 nx) {lv' : List (Nat × Value)} (hn : i < nL) (hl2 : (i, Value.int v) :: lv.filter (fun q => !(q.1 == i) && !(q.1 + 1 == i && q.2.category == 2)) = lv') (kk : VC G x ad h0 g n1 n2 nx lv' (st)) : VC G x ad h0 g n1 n2 pc lv (.int v :: st) := fun h hm hf => r_istore C d hn hl2 (kk h hm hf)
theorem c_astore_n (C : cxOk G own cc rm nL x) {i : Fin 4} {v : Nat} (d : dn cc pc (.astore_n i) 1 nx) {lv' : List (Nat × Value)} (hn : (i : Nat) < nL) (hl2 : ((i : Nat), Value.ref v) :: lv.filter (fun q => !(q.1 == (i : Nat)) && !(q.1 + 1 == (i : Nat) && q.2.category == 2)) = lv') (kk : VC G x ad h0 g n1 n2 nx lv' (st)) : VC G x ad h0 g n1 n2 pc lv (.ref v :: st) := fun h hm hf => r_astore_n C d hn hl2 (kk h hm hf)
theorem c_astore (C : cxOk G own cc rm nL x) {i : Nat} {v : Nat} (d : dn cc pc (.astore i) 2 nx) {lv' : List (Nat × Value)} (hn : i < nL) (hl2 : (i, Value.ref v) :: lv.filter (fun q => !(q.1 == i) && !(q.1 + 1 == i && q.2.category == 2)) = lv') (kk : VC G x ad h0 g n1 n2 nx lv' (st)) : VC G x ad h0 g n1 n2 pc lv (.ref v :: st) := fun h hm hf => r_astore C d hn hl2 (kk h hm hf)
theorem c_lstore_n (C : cxOk G own cc rm nL x) {i : Fin 4} {v : Int64} (d : dn cc pc (.lstore_n i) 1 nx) {lv' : List (Nat × Value)} (hn : (i : Nat) + 1 < nL) (hl2 : ((i : Nat), Value.long v) :: lv.filter (fun q => !(q.1 == (i : Nat)) && (!(q.1 == (i : Nat) + 1) && !(q.1 + 1 == (i : Nat) && q.2.category == 2))) = lv') (kk : VC G x ad h0 g n1 n2 nx lv' (st)) : VC G x ad h0 g n1 n2 pc lv (.long v :: st) := fun h hm hf => r_lstore_n C d hn hl2 (kk h hm hf)
theorem c_lstore (C : cxOk G own cc rm nL x) {i : Nat} {v : Int64} (d : dn cc pc (.lstore i) 2 nx) {lv' : List (Nat × Value)} (hn : i + 1 < nL) (hl2 : (i, Value.long v) :: lv.filter (fun q => !(q.1 == i) && (!(q.1 == i + 1) && !(q.1 + 1 == i && q.2.category == 2))) = lv') (kk : VC G x ad h0 g n1 n2 nx lv' (st)) : VC G x ad h0 g n1 n2 pc lv (.long v :: st) := fun h hm hf => r_lstore C d hn hl2 (kk h hm hf)
theorem c_iinc (C : cxOk G own cc rm nL x) {i : Nat} {k : Int} {a v : Int32} (d : dn cc pc (.iinc i k) 3 nx) {lv' : List (Nat × Value)} (j : Nat) (hk : lv[j]? = some (i, .int a)) (hv : a + Int32.ofInt k = v) (hn : i < nL) (hl2 : (i, Value.int v) :: lv.filter (fun q => !(q.1 == i) && !(q.1 + 1 == i && q.2.category == 2)) = lv') (kk : VC G x ad h0 g n1 n2 nx lv' (st)) : VC G x ad h0 g n1 n2 pc lv (st) := fun h hm hf => r_iinc C d j hk hv hn hl2 (kk h hm hf)
theorem c_iadd (C : cxOk G own cc rm nL x) {a b : Int32} (d : dn cc pc (.iadd) 1 nx)  (kk : VC G x ad h0 g n1 n2 nx lv (.int (a + b) :: st)) : VC G x ad h0 g n1 n2 pc lv (.int b :: .int a :: st) := fun h hm hf => r_iadd C d (kk h hm hf)
theorem c_isub (C : cxOk G own cc rm nL x) {a b : Int32} (d : dn cc pc (.isub) 1 nx)  (kk : VC G x ad h0 g n1 n2 nx lv (.int (a - b) :: st)) : VC G x ad h0 g n1 n2 pc lv (.int b :: .int a :: st) := fun h hm hf => r_isub C d (kk h hm hf)
theorem c_imul (C : cxOk G own cc rm nL x) {a b : Int32} (d : dn cc pc (.imul) 1 nx)  (kk : VC G x ad h0 g n1 n2 nx lv (.int (a * b) :: st)) : VC G x ad h0 g n1 n2 pc lv (.int b :: .int a :: st) := fun h hm hf => r_imul C d (kk h hm hf)
theorem c_iand (C : cxOk G own cc rm nL x) {a b : Int32} (d : dn cc pc (.iand) 1 nx)  (kk : VC G x ad h0 g n1 n2 nx lv (.int (a &&& b) :: st)) : VC G x ad h0 g n1 n2 pc lv (.int b :: .int a :: st) := fun h hm hf => r_iand C d (kk h hm hf)
theorem c_ior (C : cxOk G own cc rm nL x) {a b : Int32} (d : dn cc pc (.ior) 1 nx)  (kk : VC G x ad h0 g n1 n2 nx lv (.int (a ||| b) :: st)) : VC G x ad h0 g n1 n2 pc lv (.int b :: .int a :: st) := fun h hm hf => r_ior C d (kk h hm hf)
theorem c_ixor (C : cxOk G own cc rm nL x) {a b : Int32} (d : dn cc pc (.ixor) 1 nx)  (kk : VC G x ad h0 g n1 n2 nx lv (.int (a ^^^ b) :: st)) : VC G x ad h0 g n1 n2 pc lv (.int b :: .int a :: st) := fun h hm hf => r_ixor C d (kk h hm hf)
theorem c_ishl (C : cxOk G own cc rm nL x) {a b : Int32} (d : dn cc pc (.ishl) 1 nx)  (kk : VC G x ad h0 g n1 n2 nx lv (.int (a <<< (b &&& 31)) :: st)) : VC G x ad h0 g n1 n2 pc lv (.int b :: .int a :: st) := fun h hm hf => r_ishl C d (kk h hm hf)
theorem c_ishr (C : cxOk G own cc rm nL x) {a b : Int32} (d : dn cc pc (.ishr) 1 nx)  (kk : VC G x ad h0 g n1 n2 nx lv (.int (a >>> (b &&& 31)) :: st)) : VC G x ad h0 g n1 n2 pc lv (.int b :: .int a :: st) := fun h hm hf => r_ishr C d (kk h hm hf)
theorem c_iushr (C : cxOk G own cc rm nL x) {a b : Int32} (d : dn cc pc (.iushr) 1 nx)  (kk : VC G x ad h0 g n1 n2 nx lv (.int (a.toUInt32 >>> (b.toUInt32 &&& Int32.toUInt32 31)).toInt32 :: st)) : VC G x ad h0 g n1 n2 pc lv (.int b :: .int a :: st) := fun h hm hf => r_iushr C d (kk h hm hf)
theorem c_idiv (C : cxOk G own cc rm nL x) {a b : Int32} (d : dn cc pc (.idiv) 1 nx) (hb : ¬ b = 0) (kk : VC G x ad h0 g n1 n2 nx lv (.int (a / b) :: st)) : VC G x ad h0 g n1 n2 pc lv (.int b :: .int a :: st) := fun h hm hf => r_idiv C d hb (kk h hm hf)
theorem c_irem (C : cxOk G own cc rm nL x) {a b : Int32} (d : dn cc pc (.irem) 1 nx) (hb : ¬ b = 0) (kk : VC G x ad h0 g n1 n2 nx lv (.int (a - a / b * b) :: st)) : VC G x ad h0 g n1 n2 pc lv (.int b :: .int a :: st) := fun h hm hf => r_irem C d hb (kk h hm hf)
theorem c_ineg (C : cxOk G own cc rm nL x) {a : Int32} (d : dn cc pc (.ineg) 1 nx)  (kk : VC G x ad h0 g n1 n2 nx lv (.int (-a) :: st)) : VC G x ad h0 g n1 n2 pc lv (.int a :: st) := fun h hm hf => r_ineg C d (kk h hm hf)
theorem c_ladd (C : cxOk G own cc rm nL x) {a b : Int64} (d : dn cc pc (.ladd) 1 nx)  (kk : VC G x ad h0 g n1 n2 nx lv (.long (a + b) :: st)) : VC G x ad h0 g n1 n2 pc lv (.long b :: .long a :: st) := fun h hm hf => r_ladd C d (kk h hm hf)
theorem c_land (C : cxOk G own cc rm nL x) {a b : Int64} (d : dn cc pc (.land) 1 nx)  (kk : VC G x ad h0 g n1 n2 nx lv (.long (a &&& b) :: st)) : VC G x ad h0 g n1 n2 pc lv (.long b :: .long a :: st) := fun h hm hf => r_land C d (kk h hm hf)
theorem c_lor (C : cxOk G own cc rm nL x) {a b : Int64} (d : dn cc pc (.lor) 1 nx)  (kk : VC G x ad h0 g n1 n2 nx lv (.long (a ||| b) :: st)) : VC G x ad h0 g n1 n2 pc lv (.long b :: .long a :: st) := fun h hm hf => r_lor C d (kk h hm hf)
theorem c_lxor (C : cxOk G own cc rm nL x) {a b : Int64} (d : dn cc pc (.lxor) 1 nx)  (kk : VC G x ad h0 g n1 n2 nx lv (.long (a ^^^ b) :: st)) : VC G x ad h0 g n1 n2 pc lv (.long b :: .long a :: st) := fun h hm hf => r_lxor C d (kk h hm hf)
theorem c_lushr (C : cxOk G own cc rm nL x) {a : Int64} {b : Int32} (d : dn cc pc (.lushr) 1 nx)  (kk : VC G x ad h0 g n1 n2 nx lv (.long (a.toUInt64 >>> (b.toInt64.toUInt64 &&& Int64.toUInt64 63)).toInt64 :: st)) : VC G x ad h0 g n1 n2 pc lv (.int b :: .long a :: st) := fun h hm hf => r_lushr C d (kk h hm hf)
theorem c_lshl (C : cxOk G own cc rm nL x) {a : Int64} {b : Int32} (d : dn cc pc (.lshl) 1 nx)  (kk : VC G x ad h0 g n1 n2 nx lv (.long (a <<< (b.toInt64 &&& 63)) :: st)) : VC G x ad h0 g n1 n2 pc lv (.int b :: .long a :: st) := fun h hm hf => r_lshl C d (kk h hm hf)
theorem c_lshr (C : cxOk G own cc rm nL x) {a : Int64} {b : Int32} (d : dn cc pc (.lshr) 1 nx)  (kk : VC G x ad h0 g n1 n2 nx lv (.long (a >>> (b.toInt64 &&& 63)) :: st)) : VC G x ad h0 g n1 n2 pc lv (.int b :: .long a :: st) := fun h hm hf => r_lshr C d (kk h hm hf)
theorem c_lcmp (C : cxOk G own cc rm nL x) {a b : Int64} (d : dn cc pc (.lcmp) 1 nx)  (kk : VC G x ad h0 g n1 n2 nx lv (.int (lg_cmp a b) :: st)) : VC G x ad h0 g n1 n2 pc lv (.long b :: .long a :: st) := fun h hm hf => r_lcmp C d (kk h hm hf)
theorem c_i2l (C : cxOk G own cc rm nL x) {a : Int32} (d : dn cc pc (.i2l) 1 nx)  (kk : VC G x ad h0 g n1 n2 nx lv (.long a.toInt64 :: st)) : VC G x ad h0 g n1 n2 pc lv (.int a :: st) := fun h hm hf => r_i2l C d (kk h hm hf)
theorem c_l2i (C : cxOk G own cc rm nL x) {a : Int64} (d : dn cc pc (.l2i) 1 nx)  (kk : VC G x ad h0 g n1 n2 nx lv (.int a.toInt32 :: st)) : VC G x ad h0 g n1 n2 pc lv (.long a :: st) := fun h hm hf => r_l2i C d (kk h hm hf)
theorem c_dup (C : cxOk G own cc rm nL x) {v : Value} (d : dn cc pc (.dup) 1 nx) (hv : v.category = 1) (kk : VC G x ad h0 g n1 n2 nx lv (v :: v :: st)) : VC G x ad h0 g n1 n2 pc lv (v :: st) := fun h hm hf => r_dup C d hv (kk h hm hf)
theorem c_pop (C : cxOk G own cc rm nL x) {v : Value} (d : dn cc pc (.pop) 1 nx) (hv : v.category = 1) (kk : VC G x ad h0 g n1 n2 nx lv (st)) : VC G x ad h0 g n1 n2 pc lv (v :: st) := fun h hm hf => r_pop C d hv (kk h hm hf)
theorem c_dup2 (C : cxOk G own cc rm nL x) {v w : Value} (d : dn cc pc (.dup2) 1 nx) (hv : v.category = 1) (hw : w.category = 1) (kk : VC G x ad h0 g n1 n2 nx lv (v :: w :: v :: w :: st)) : VC G x ad h0 g n1 n2 pc lv (v :: w :: st) := fun h hm hf => r_dup2 C d hv hw (kk h hm hf)
theorem c_if_eq (C : cxOk G own cc rm nL x) {off : Int} {tgt : Nat} {a : Int32} (d : dn cc pc (.ifCond .eq off) 3 nx) (ht : (pc : Int) + off = (tgt : Int)) (kt : a = 0 → VC G x ad h0 g n1 n2 tgt lv (st)) (kf : ¬ (a = 0) → VC G x ad h0 g n1 n2 nx lv (st)) : VC G x ad h0 g n1 n2 pc lv (.int a :: st) := fun h hm hf => r_if_eq C d ht (fun c => kt c h hm hf) (fun c => kf c h hm hf)
theorem c_if_ne (C : cxOk G own cc rm nL x) {off : Int} {tgt : Nat} {a : Int32} (d : dn cc pc (.ifCond .ne off) 3 nx) (ht : (pc : Int) + off = (tgt : Int)) (kt : ¬ a = 0 → VC G x ad h0 g n1 n2 tgt lv (st)) (kf : ¬ (¬ a = 0) → VC G x ad h0 g n1 n2 nx lv (st)) : VC G x ad h0 g n1 n2 pc lv (.int a :: st) := fun h hm hf => r_if_ne C d ht (fun c => kt c h hm hf) (fun c => kf c h hm hf)
theorem c_if_lt (C : cxOk G own cc rm nL x) {off : Int} {tgt : Nat} {a : Int32} (d : dn cc pc (.ifCond .lt off) 3 nx) (ht : (pc : Int) + off = (tgt : Int)) (kt : a < 0 → VC G x ad h0 g n1 n2 tgt lv (st)) (kf : ¬ (a < 0) → VC G x ad h0 g n1 n2 nx lv (st)) : VC G x ad h0 g n1 n2 pc lv (.int a :: st) := fun h hm hf => r_if_lt C d ht (fun c => kt c h hm hf) (fun c => kf c h hm hf)
theorem c_if_ge (C : cxOk G own cc rm nL x) {off : Int} {tgt : Nat} {a : Int32} (d : dn cc pc (.ifCond .ge off) 3 nx) (ht : (pc : Int) + off = (tgt : Int)) (kt : 0 ≤ a → VC G x ad h0 g n1 n2 tgt lv (st)) (kf : ¬ (0 ≤ a) → VC G x ad h0 g n1 n2 nx lv (st)) : VC G x ad h0 g n1 n2 pc lv (.int a :: st) := fun h hm hf => r_if_ge C d ht (fun c => kt c h hm hf) (fun c => kf c h hm hf)
theorem c_if_gt (C : cxOk G own cc rm nL x) {off : Int} {tgt : Nat} {a : Int32} (d : dn cc pc (.ifCond .gt off) 3 nx) (ht : (pc : Int) + off = (tgt : Int)) (kt : 0 < a → VC G x ad h0 g n1 n2 tgt lv (st)) (kf : ¬ (0 < a) → VC G x ad h0 g n1 n2 nx lv (st)) : VC G x ad h0 g n1 n2 pc lv (.int a :: st) := fun h hm hf => r_if_gt C d ht (fun c => kt c h hm hf) (fun c => kf c h hm hf)
theorem c_if_le (C : cxOk G own cc rm nL x) {off : Int} {tgt : Nat} {a : Int32} (d : dn cc pc (.ifCond .le off) 3 nx) (ht : (pc : Int) + off = (tgt : Int)) (kt : a ≤ 0 → VC G x ad h0 g n1 n2 tgt lv (st)) (kf : ¬ (a ≤ 0) → VC G x ad h0 g n1 n2 nx lv (st)) : VC G x ad h0 g n1 n2 pc lv (.int a :: st) := fun h hm hf => r_if_le C d ht (fun c => kt c h hm hf) (fun c => kf c h hm hf)
theorem c_icmp_eq (C : cxOk G own cc rm nL x) {off : Int} {tgt : Nat} {a b : Int32} (d : dn cc pc (.if_icmp .eq off) 3 nx) (ht : (pc : Int) + off = (tgt : Int)) (kt : a = b → VC G x ad h0 g n1 n2 tgt lv (st)) (kf : ¬ (a = b) → VC G x ad h0 g n1 n2 nx lv (st)) : VC G x ad h0 g n1 n2 pc lv (.int b :: .int a :: st) := fun h hm hf => r_icmp_eq C d ht (fun c => kt c h hm hf) (fun c => kf c h hm hf)
theorem c_icmp_ne (C : cxOk G own cc rm nL x) {off : Int} {tgt : Nat} {a b : Int32} (d : dn cc pc (.if_icmp .ne off) 3 nx) (ht : (pc : Int) + off = (tgt : Int)) (kt : ¬ a = b → VC G x ad h0 g n1 n2 tgt lv (st)) (kf : ¬ (¬ a = b) → VC G x ad h0 g n1 n2 nx lv (st)) : VC G x ad h0 g n1 n2 pc lv (.int b :: .int a :: st) := fun h hm hf => r_icmp_ne C d ht (fun c => kt c h hm hf) (fun c => kf c h hm hf)
theorem c_icmp_lt (C : cxOk G own cc rm nL x) {off : Int} {tgt : Nat} {a b : Int32} (d : dn cc pc (.if_icmp .lt off) 3 nx) (ht : (pc : Int) + off = (tgt : Int)) (kt : a < b → VC G x ad h0 g n1 n2 tgt lv (st)) (kf : ¬ (a < b) → VC G x ad h0 g n1 n2 nx lv (st)) : VC G x ad h0 g n1 n2 pc lv (.int b :: .int a :: st) := fun h hm hf => r_icmp_lt C d ht (fun c => kt c h hm hf) (fun c => kf c h hm hf)
theorem c_icmp_ge (C : cxOk G own cc rm nL x) {off : Int} {tgt : Nat} {a b : Int32} (d : dn cc pc (.if_icmp .ge off) 3 nx) (ht : (pc : Int) + off = (tgt : Int)) (kt : b ≤ a → VC G x ad h0 g n1 n2 tgt lv (st)) (kf : ¬ (b ≤ a) → VC G x ad h0 g n1 n2 nx lv (st)) : VC G x ad h0 g n1 n2 pc lv (.int b :: .int a :: st) := fun h hm hf => r_icmp_ge C d ht (fun c => kt c h hm hf) (fun c => kf c h hm hf)
theorem c_icmp_gt (C : cxOk G own cc rm nL x) {off : Int} {tgt : Nat} {a b : Int32} (d : dn cc pc (.if_icmp .gt off) 3 nx) (ht : (pc : Int) + off = (tgt : Int)) (kt : b < a → VC G x ad h0 g n1 n2 tgt lv (st)) (kf : ¬ (b < a) → VC G x ad h0 g n1 n2 nx lv (st)) : VC G x ad h0 g n1 n2 pc lv (.int b :: .int a :: st) := fun h hm hf => r_icmp_gt C d ht (fun c => kt c h hm hf) (fun c => kf c h hm hf)
theorem c_icmp_le (C : cxOk G own cc rm nL x) {off : Int} {tgt : Nat} {a b : Int32} (d : dn cc pc (.if_icmp .le off) 3 nx) (ht : (pc : Int) + off = (tgt : Int)) (kt : a ≤ b → VC G x ad h0 g n1 n2 tgt lv (st)) (kf : ¬ (a ≤ b) → VC G x ad h0 g n1 n2 nx lv (st)) : VC G x ad h0 g n1 n2 pc lv (.int b :: .int a :: st) := fun h hm hf => r_icmp_le C d ht (fun c => kt c h hm hf) (fun c => kf c h hm hf)
theorem c_goto (C : cxOk G own cc rm nL x) {off : Int} {tgt : Nat} (d : dn cc pc (.goto off) 3 nx) (ht : (pc : Int) + off = (tgt : Int)) (kk : VC G x ad h0 g n1 n2 tgt lv (st)) : VC G x ad h0 g n1 n2 pc lv (st) := fun h hm hf => r_goto C d ht (kk h hm hf)
theorem cn_iadd (C : cxOk G own cc rm nL x) {a b : Nat} (d : dn cc pc .iadd 1 nx) (kk : VC G x ad h0 g n1 n2 nx lv (.int (nI (a + b)) :: st)) : VC G x ad h0 g n1 n2 pc lv (.int (nI b) :: .int (nI a) :: st) := fun h hm hf => rn_iadd C d (kk h hm hf)
theorem cn_isub (C : cxOk G own cc rm nL x) {a b : Nat} (d : dn cc pc .isub 1 nx) (hle : b ≤ a) (kk : VC G x ad h0 g n1 n2 nx lv (.int (nI (a - b)) :: st)) : VC G x ad h0 g n1 n2 pc lv (.int (nI b) :: .int (nI a) :: st) := fun h hm hf => rn_isub C d hle (kk h hm hf)
theorem cn_imul (C : cxOk G own cc rm nL x) {a b : Nat} (d : dn cc pc .imul 1 nx) (kk : VC G x ad h0 g n1 n2 nx lv (.int (nI (a * b)) :: st)) : VC G x ad h0 g n1 n2 pc lv (.int (nI b) :: .int (nI a) :: st) := fun h hm hf => rn_imul C d (kk h hm hf)
theorem cn_idiv (C : cxOk G own cc rm nL x) {a b : Nat} (d : dn cc pc .idiv 1 nx) (ha : a < 2147483648) (hz : 0 < b) (hb : b < 2147483648) (kk : VC G x ad h0 g n1 n2 nx lv (.int (nI (a / b)) :: st)) : VC G x ad h0 g n1 n2 pc lv (.int (nI b) :: .int (nI a) :: st) := fun h hm hf => rn_idiv C d ha hz hb (kk h hm hf)
theorem cn_irem (C : cxOk G own cc rm nL x) {a b : Nat} (d : dn cc pc .irem 1 nx) (ha : a < 2147483648) (hz : 0 < b) (hb : b < 2147483648) (kk : VC G x ad h0 g n1 n2 nx lv (.int (nI (a % b)) :: st)) : VC G x ad h0 g n1 n2 pc lv (.int (nI b) :: .int (nI a) :: st) := fun h hm hf => rn_irem C d ha hz hb (kk h hm hf)
theorem cn_iand (C : cxOk G own cc rm nL x) {a b : Nat} (d : dn cc pc .iand 1 nx) (kk : VC G x ad h0 g n1 n2 nx lv (.int (nI (a &&& b)) :: st)) : VC G x ad h0 g n1 n2 pc lv (.int (nI b) :: .int (nI a) :: st) := fun h hm hf => rn_iand C d (kk h hm hf)
theorem cn_ior (C : cxOk G own cc rm nL x) {a b : Nat} (d : dn cc pc .ior 1 nx) (kk : VC G x ad h0 g n1 n2 nx lv (.int (nI (a ||| b)) :: st)) : VC G x ad h0 g n1 n2 pc lv (.int (nI b) :: .int (nI a) :: st) := fun h hm hf => rn_ior C d (kk h hm hf)
theorem cn_ishl (C : cxOk G own cc rm nL x) {a b : Nat} (d : dn cc pc .ishl 1 nx) (hb : b < 32) (kk : VC G x ad h0 g n1 n2 nx lv (.int (nI (a * 2 ^ b)) :: st)) : VC G x ad h0 g n1 n2 pc lv (.int (nI b) :: .int (nI a) :: st) := fun h hm hf => rn_ishl C d hb (kk h hm hf)
theorem cn_ishr (C : cxOk G own cc rm nL x) {a b : Nat} (d : dn cc pc .ishr 1 nx) (ha : a < 2147483648) (hb : b < 32) (kk : VC G x ad h0 g n1 n2 nx lv (.int (nI (a / 2 ^ b)) :: st)) : VC G x ad h0 g n1 n2 pc lv (.int (nI b) :: .int (nI a) :: st) := fun h hm hf => rn_ishr C d ha hb (kk h hm hf)
theorem cn_iushr (C : cxOk G own cc rm nL x) {a b : Nat} (d : dn cc pc .iushr 1 nx) (ha : a < 4294967296) (hb : b < 32) (kk : VC G x ad h0 g n1 n2 nx lv (.int (nI (a / 2 ^ b)) :: st)) : VC G x ad h0 g n1 n2 pc lv (.int (nI b) :: .int (nI a) :: st) := fun h hm hf => rn_iushr C d ha hb (kk h hm hf)
theorem cn_iinc (C : cxOk G own cc rm nL x) {i a b : Nat} {k : Int} {lv' : List (Nat × Value)} (d : dn cc pc (.iinc i k) 3 nx) (j : Nat) (hk : lv[j]? = some (i, .int (nI a))) (hv : nI a + Int32.ofInt k = nI b) (hn : i < nL) (hl2 : (i, Value.int (nI b)) :: lv.filter (fun q => !(q.1 == i) && !(q.1 + 1 == i && q.2.category == 2)) = lv') (kk : VC G x ad h0 g n1 n2 nx lv' (st)) : VC G x ad h0 g n1 n2 pc lv (st) := fun h hm hf => rn_iinc C d j hk hv hn hl2 (kk h hm hf)
theorem cn_icmp_eq (C : cxOk G own cc rm nL x) {off : Int} {tgt a b : Nat} (d : dn cc pc (.if_icmp .eq off) 3 nx) (ht : (pc : Int) + off = (tgt : Int)) (ha : a < 2147483648) (hb : b < 2147483648) (kt : a = b → VC G x ad h0 g n1 n2 tgt lv (st)) (kf : ¬ a = b → VC G x ad h0 g n1 n2 nx lv (st)) : VC G x ad h0 g n1 n2 pc lv (.int (nI b) :: .int (nI a) :: st) := fun h hm hf => rn_icmp_eq C d ht ha hb (fun c => kt c h hm hf) (fun c => kf c h hm hf)
theorem cn_icmp_ne (C : cxOk G own cc rm nL x) {off : Int} {tgt a b : Nat} (d : dn cc pc (.if_icmp .ne off) 3 nx) (ht : (pc : Int) + off = (tgt : Int)) (ha : a < 2147483648) (hb : b < 2147483648) (kt : ¬ a = b → VC G x ad h0 g n1 n2 tgt lv (st)) (kf : a = b → VC G x ad h0 g n1 n2 nx lv (st)) : VC G x ad h0 g n1 n2 pc lv (.int (nI b) :: .int (nI a) :: st) := fun h hm hf => rn_icmp_ne C d ht ha hb (fun c => kt c h hm hf) (fun c => kf c h hm hf)
theorem cn_icmp_lt (C : cxOk G own cc rm nL x) {off : Int} {tgt a b : Nat} (d : dn cc pc (.if_icmp .lt off) 3 nx) (ht : (pc : Int) + off = (tgt : Int)) (ha : a < 2147483648) (hb : b < 2147483648) (kt : a < b → VC G x ad h0 g n1 n2 tgt lv (st)) (kf : b ≤ a → VC G x ad h0 g n1 n2 nx lv (st)) : VC G x ad h0 g n1 n2 pc lv (.int (nI b) :: .int (nI a) :: st) := fun h hm hf => rn_icmp_lt C d ht ha hb (fun c => kt c h hm hf) (fun c => kf c h hm hf)
theorem cn_icmp_ge (C : cxOk G own cc rm nL x) {off : Int} {tgt a b : Nat} (d : dn cc pc (.if_icmp .ge off) 3 nx) (ht : (pc : Int) + off = (tgt : Int)) (ha : a < 2147483648) (hb : b < 2147483648) (kt : b ≤ a → VC G x ad h0 g n1 n2 tgt lv (st)) (kf : a < b → VC G x ad h0 g n1 n2 nx lv (st)) : VC G x ad h0 g n1 n2 pc lv (.int (nI b) :: .int (nI a) :: st) := fun h hm hf => rn_icmp_ge C d ht ha hb (fun c => kt c h hm hf) (fun c => kf c h hm hf)
theorem cn_icmp_gt (C : cxOk G own cc rm nL x) {off : Int} {tgt a b : Nat} (d : dn cc pc (.if_icmp .gt off) 3 nx) (ht : (pc : Int) + off = (tgt : Int)) (ha : a < 2147483648) (hb : b < 2147483648) (kt : b < a → VC G x ad h0 g n1 n2 tgt lv (st)) (kf : a ≤ b → VC G x ad h0 g n1 n2 nx lv (st)) : VC G x ad h0 g n1 n2 pc lv (.int (nI b) :: .int (nI a) :: st) := fun h hm hf => rn_icmp_gt C d ht ha hb (fun c => kt c h hm hf) (fun c => kf c h hm hf)
theorem cn_icmp_le (C : cxOk G own cc rm nL x) {off : Int} {tgt a b : Nat} (d : dn cc pc (.if_icmp .le off) 3 nx) (ht : (pc : Int) + off = (tgt : Int)) (ha : a < 2147483648) (hb : b < 2147483648) (kt : a ≤ b → VC G x ad h0 g n1 n2 tgt lv (st)) (kf : b < a → VC G x ad h0 g n1 n2 nx lv (st)) : VC G x ad h0 g n1 n2 pc lv (.int (nI b) :: .int (nI a) :: st) := fun h hm hf => rn_icmp_le C d ht ha hb (fun c => kt c h hm hf) (fun c => kf c h hm hf)
theorem cn_if_eq (C : cxOk G own cc rm nL x) {off : Int} {tgt a : Nat} (d : dn cc pc (.ifCond .eq off) 3 nx) (ht : (pc : Int) + off = (tgt : Int)) (ha : a < 2147483648) (kt : a = 0 → VC G x ad h0 g n1 n2 tgt lv (st)) (kf : 0 < a → VC G x ad h0 g n1 n2 nx lv (st)) : VC G x ad h0 g n1 n2 pc lv (.int (nI a) :: st) := fun h hm hf => rn_if_eq C d ht ha (fun c => kt c h hm hf) (fun c => kf c h hm hf)
theorem cn_if_ne (C : cxOk G own cc rm nL x) {off : Int} {tgt a : Nat} (d : dn cc pc (.ifCond .ne off) 3 nx) (ht : (pc : Int) + off = (tgt : Int)) (ha : a < 2147483648) (kt : 0 < a → VC G x ad h0 g n1 n2 tgt lv (st)) (kf : a = 0 → VC G x ad h0 g n1 n2 nx lv (st)) : VC G x ad h0 g n1 n2 pc lv (.int (nI a) :: st) := fun h hm hf => rn_if_ne C d ht ha (fun c => kt c h hm hf) (fun c => kf c h hm hf)
theorem cn_if_lt (C : cxOk G own cc rm nL x) {off : Int} {tgt a : Nat} (d : dn cc pc (.ifCond .lt off) 3 nx) (ht : (pc : Int) + off = (tgt : Int)) (ha : a < 2147483648) (kt : False → VC G x ad h0 g n1 n2 tgt lv (st)) (kf : True → VC G x ad h0 g n1 n2 nx lv (st)) : VC G x ad h0 g n1 n2 pc lv (.int (nI a) :: st) := fun h hm hf => rn_if_lt C d ht ha (fun c => kt c h hm hf) (fun c => kf c h hm hf)
theorem cn_if_ge (C : cxOk G own cc rm nL x) {off : Int} {tgt a : Nat} (d : dn cc pc (.ifCond .ge off) 3 nx) (ht : (pc : Int) + off = (tgt : Int)) (ha : a < 2147483648) (kt : True → VC G x ad h0 g n1 n2 tgt lv (st)) (kf : False → VC G x ad h0 g n1 n2 nx lv (st)) : VC G x ad h0 g n1 n2 pc lv (.int (nI a) :: st) := fun h hm hf => rn_if_ge C d ht ha (fun c => kt c h hm hf) (fun c => kf c h hm hf)
theorem cn_if_gt (C : cxOk G own cc rm nL x) {off : Int} {tgt a : Nat} (d : dn cc pc (.ifCond .gt off) 3 nx) (ht : (pc : Int) + off = (tgt : Int)) (ha : a < 2147483648) (kt : 0 < a → VC G x ad h0 g n1 n2 tgt lv (st)) (kf : a = 0 → VC G x ad h0 g n1 n2 nx lv (st)) : VC G x ad h0 g n1 n2 pc lv (.int (nI a) :: st) := fun h hm hf => rn_if_gt C d ht ha (fun c => kt c h hm hf) (fun c => kf c h hm hf)
theorem cn_if_le (C : cxOk G own cc rm nL x) {off : Int} {tgt a : Nat} (d : dn cc pc (.ifCond .le off) 3 nx) (ht : (pc : Int) + off = (tgt : Int)) (ha : a < 2147483648) (kt : a = 0 → VC G x ad h0 g n1 n2 tgt lv (st)) (kf : 0 < a → VC G x ad h0 g n1 n2 nx lv (st)) : VC G x ad h0 g n1 n2 pc lv (.int (nI a) :: st) := fun h hm hf => rn_if_le C d ht ha (fun c => kt c h hm hf) (fun c => kf c h hm hf)
theorem cb_if_eq (C : cxOk G own cc rm nL x) {off : Int} {tgt : Nat} {b : Bool} (d : dn cc pc (.ifCond .eq off) 3 nx) (ht : (pc : Int) + off = (tgt : Int)) (kt : b = false → VC G x ad h0 g n1 n2 tgt lv (st)) (kf : b = true → VC G x ad h0 g n1 n2 nx lv (st)) : VC G x ad h0 g n1 n2 pc lv (.int (bI b) :: st) := fun h hm hf => rb_if_eq C d ht (fun c => kt c h hm hf) (fun c => kf c h hm hf)
theorem cb_if_ne (C : cxOk G own cc rm nL x) {off : Int} {tgt : Nat} {b : Bool} (d : dn cc pc (.ifCond .ne off) 3 nx) (ht : (pc : Int) + off = (tgt : Int)) (kt : b = true → VC G x ad h0 g n1 n2 tgt lv (st)) (kf : b = false → VC G x ad h0 g n1 n2 nx lv (st)) : VC G x ad h0 g n1 n2 pc lv (.int (bI b) :: st) := fun h hm hf => rb_if_ne C d ht (fun c => kt c h hm hf) (fun c => kf c h hm hf)
theorem cn_i2l (C : cxOk G own cc rm nL x) {a : Nat} (d : dn cc pc .i2l 1 nx) (ha : a < 2147483648) (kk : VC G x ad h0 g n1 n2 nx lv (.long (lN a) :: st)) : VC G x ad h0 g n1 n2 pc lv (.int (nI a) :: st) := fun h hm hf => rn_i2l C d ha (kk h hm hf)
theorem cn_l2i (C : cxOk G own cc rm nL x) {a : Nat} (d : dn cc pc .l2i 1 nx) (kk : VC G x ad h0 g n1 n2 nx lv (.int (nI a) :: st)) : VC G x ad h0 g n1 n2 pc lv (.long (lN a) :: st) := fun h hm hf => rn_l2i C d (kk h hm hf)
theorem cn_lshl (C : cxOk G own cc rm nL x) {a b : Nat} (d : dn cc pc .lshl 1 nx) (hb : b < 64) (kk : VC G x ad h0 g n1 n2 nx lv (.long (lN (a * 2 ^ b)) :: st)) : VC G x ad h0 g n1 n2 pc lv (.int (nI b) :: .long (lN a) :: st) := fun h hm hf => rn_lshl C d hb (kk h hm hf)
theorem cn_lshr (C : cxOk G own cc rm nL x) {a b : Nat} (d : dn cc pc .lshr 1 nx) (ha : a < 9223372036854775808) (hb : b < 64) (kk : VC G x ad h0 g n1 n2 nx lv (.long (lN (a / 2 ^ b)) :: st)) : VC G x ad h0 g n1 n2 pc lv (.int (nI b) :: .long (lN a) :: st) := fun h hm hf => rn_lshr C d ha hb (kk h hm hf)
theorem cn_lushr (C : cxOk G own cc rm nL x) {a b : Nat} (d : dn cc pc .lushr 1 nx) (ha : a < 18446744073709551616) (hb : b < 64) (kk : VC G x ad h0 g n1 n2 nx lv (.long (lN (a / 2 ^ b)) :: st)) : VC G x ad h0 g n1 n2 pc lv (.int (nI b) :: .long (lN a) :: st) := fun h hm hf => rn_lushr C d ha hb (kk h hm hf)
theorem cn_land (C : cxOk G own cc rm nL x) {a b : Nat} (d : dn cc pc .land 1 nx) (kk : VC G x ad h0 g n1 n2 nx lv (.long (lN (a &&& b)) :: st)) : VC G x ad h0 g n1 n2 pc lv (.long (lN b) :: .long (lN a) :: st) := fun h hm hf => rn_land C d (kk h hm hf)
theorem cn_lor (C : cxOk G own cc rm nL x) {a b : Nat} (d : dn cc pc .lor 1 nx) (kk : VC G x ad h0 g n1 n2 nx lv (.long (lN (a ||| b)) :: st)) : VC G x ad h0 g n1 n2 pc lv (.long (lN b) :: .long (lN a) :: st) := fun h hm hf => rn_lor C d (kk h hm hf)
theorem cn_lcmp (C : cxOk G own cc rm nL x) {a b : Nat} (d : dn cc pc .lcmp 1 nx) (ha : a < 9223372036854775808) (hb : b < 9223372036854775808) (kk : VC G x ad h0 g n1 n2 nx lv (.int (lg_cmp (lN a) (lN b)) :: st)) : VC G x ad h0 g n1 n2 pc lv (.long (lN b) :: .long (lN a) :: st) := fun h hm hf => rn_lcmp C d ha hb (kk h hm hf)
theorem c_st {st' : List Value} (e : st = st') (kk : VC G x ad h0 g n1 n2 pc lv st') : VC G x ad h0 g n1 n2 pc lv st := e ▸ kk
theorem c_lve {lv' : List (Nat × Value)} (e : lv = lv') (kk : VC G x ad h0 g n1 n2 pc lv' st) : VC G x ad h0 g n1 n2 pc lv st := e ▸ kk
theorem c_eq {g' : mS} (e : g = g') (kk : VC G x ad h0 g' n1 n2 pc lv st) : VC G x ad h0 g n1 n2 pc lv st := e ▸ kk
theorem c_lv {lv' : List (Nat × Value)} (ks : List Nat) (hl2 : lv_pick lv ks = lv') (kk : VC G x ad h0 g n1 n2 pc lv' st) : VC G x ad h0 g n1 n2 pc lv st := fun h hm hf => r_lv ks hl2 (kk h hm hf)
/-- from here on all is told of the heap as it stands -/
theorem c_rb (kk : ∀ h, co G ad g h → cfr ad h0 h → VC G x ad h g n1 n2 pc lv st) : VC G x ad h0 g n1 n2 pc lv st := fun h hm hf => kk h hm hf h hm cfr_rf
theorem c_get (C : cxOk G own cc rm nL x) {i k i' ci j : Nat} {v : Value} {fs : List Value} (d : dn cc pc (.getfield i) 3 nx) (F : fdOk own i ci j) (hk : cOk k i' = true) (hc : ce G ad g k i' = oC ci fs) (hv : fs[j]? = some v) (kk : VC G x ad h0 g n1 n2 nx lv (v :: st)) : VC G x ad h0 g n1 n2 pc lv (.ref (ad k i') :: st) := fun h hm hf => r_get C d F ((hm.1 k i' hk).trans (congrArg some hc)) hv (kk h hm hf)
/-- a field of what is no root -/
theorem c_getN (C : cxOk G own cc rm nL x) {i a ci j : Nat} {v : Value} {fs : List Value} (d : dn cc pc (.getfield i) 3 nx) (F : fdOk own i ci j) (hn : nr ad a) (hc : h0 a = some (oC ci fs)) (hv : fs[j]? = some v) (kk : VC G x ad h0 g n1 n2 nx lv (v :: st)) : VC G x ad h0 g n1 n2 pc lv (.ref a :: st) := fun h hm hf => r_get C d F (hf a _ hn.w hc) hv (kk h hm hf)
theorem c_ialdN (C : cxOk G own cc rm nL x) {a j n : Nat} {f : Nat → Int32} (d : dn cc pc .iaload 1 nx) (hn : nr ad a) (hc : h0 a = some (aI G n f)) (hj : j < n) (hl : n < 2147483648) (kk : VC G x ad h0 g n1 n2 nx lv (.int (f j) :: st)) : VC G x ad h0 g n1 n2 pc lv (.int (nI j) :: .ref a :: st) := fun h hm hf => r_iald (f := f) C d (hf a _ hn.w hc) hj hl (kk h hm hf)
theorem c_laldN (C : cxOk G own cc rm nL x) {a j n : Nat} {f : Nat → Int64} (d : dn cc pc .laload 1 nx) (hn : nr ad a) (hc : h0 a = some (aJ G n f)) (hj : j < n) (hl : n < 2147483648) (kk : VC G x ad h0 g n1 n2 nx lv (.long (f j) :: st)) : VC G x ad h0 g n1 n2 pc lv (.int (nI j) :: .ref a :: st) := fun h hm hf => r_lald (f := f) C d (hf a _ hn.w hc) hj hl (kk h hm hf)
theorem c_aaldN (C : cxOk G own cc rm nL x) {a b j n t : Nat} {CN : String} {f : Nat → Option Nat} (d : dn cc pc .aaload 1 nx) (ht : (tyL G)[t]? = some (G.2.1 t, .object CN)) (hn : nr ad a) (hc : h0 a = some (aR G t n f)) (hj : j < n) (hl : n < 2147483648) (hf : f j = some b) (kk : VC G x ad h0 g n1 n2 nx lv (.ref b :: st)) : VC G x ad h0 g n1 n2 pc lv (.int (nI j) :: .ref a :: st) := fun h hm hf' => r_aald (f := f) C d (hf' a _ hn.w hc) ht hj hl hf (kk h hm hf')
theorem c_alenN (C : cxOk G own cc rm nL x) {a n t : Nat} {CN : String} {f : Nat → Option Nat} (d : dn cc pc .arraylength 1 nx) (ht : (tyL G)[t]? = some (G.2.1 t, .object CN)) (hn : nr ad a) (hc : h0 a = some (aR G t n f)) (kk : VC G x ad h0 g n1 n2 nx lv (.int (nI n) :: st)) : VC G x ad h0 g n1 n2 pc lv (.ref a :: st) := fun h hm hf => r_alen C d (hf a _ hn.w hc) ht rfl (kk h hm hf)
theorem c_put (C : cxOk G own cc rm nL x) {i k i' ci j : Nat} {v : Value} {ty : FieldType} {fs fs' : List Value} {g' : mS} (d : dn cc pc (.putfield i) 3 nx) (F : pfOk own i ci j ty false) (hk : cOk k i' = true) (hc : ce G ad g k i' = oC ci fs) (hn : narrow ty v = v) (hfit : fits ty v = true) (hlen : j < fs.length) (hs : fs.set j v = fs') (hc' : ce G ad g' k i' = oC ci fs') (ho : ∀ k2 i2, cOk k2 i2 = true → ¬ (k2 = k ∧ i2 = i') → ce G ad g' k2 i2 = ce G ad g k2 i2) (kk : VC G x ad h0 g' n1 n2 nx lv st) : VC G x ad h0 g n1 n2 pc lv (v :: .ref (ad k i') :: st) := fun h hm hf => r_put C d F ((hm.1 k i' hk).trans (congrArg some hc)) hn hfit hlen hs (by
  have e : (.inr (ci, fs') : va_E) = ce G ad g' k i' := hc'.symm
  rw [e]
  exact kk _ (co_put hm hk ho) (cfr_put hk _ hf))
theorem oth_K {k i r v : Nat} (hr : r = 40 ∧ k = 0 ∨ r = 16 ∧ k = 0 ∨ r = 15 ∧ k = 0 ∨ r = 41 ∧ k = 5) (hi : i = 0) : ∀ k2 i2, cOk k2 i2 = true → ¬ (k2 = k ∧ i2 = i) → ce G ad (uK g r v) k2 i2 = ce G ad g k2 i2 := by
  intro k2 i2 hk he
  have h0 : k2 = 0 → i2 = 0 := fun e => by subst e; exact of_decide_eq_true hk
  have h5 : k2 = 5 → i2 = 0 := fun e => by subst e; exact of_decide_eq_true hk
  refine ce_cong hk ⟨fun e => ?_, fun e => ?_, fun _ => ⟨rfl, rfl, rfl⟩, fun _ => ⟨rfl, rfl⟩⟩ ⟨fun _ _ => rfl, fun _ _ => rfl, fun _ _ _ => rfl, fun _ _ _ => rfl, fun _ _ _ => rfl, fun _ _ _ => rfl, fun _ _ _ => rfl, fun _ _ _ => rfl, fun _ _ _ => rfl⟩
  · have : r = 41 := by have := h0 e; omega
    subst this; exact ⟨rfl, rfl, rfl⟩
  · have : r ≠ 41 := by have := h5 e; omega
    exact ⟨by rw [mK_uK, if_neg (by omega)], rfl, rfl⟩
theorem oth_B {k i r i' : Nat} {v : Bool} (hr : r = 30 ∧ k = 5 ∧ i = 0 ∨ r = 31 ∧ k = 5 ∧ i = 0 ∨ (r = 5 ∨ r = 6) ∧ k = 10 ∧ i = i' ∨ r = 32 ∧ k = 20 ∧ i = i') : ∀ k2 i2, cOk k2 i2 = true → ¬ (k2 = k ∧ i2 = i) → ce G ad (uB g r i' v) k2 i2 = ce G ad g k2 i2 := by
  intro k2 i2 hk he
  have h5 : k2 = 5 → i2 = 0 := fun e => by subst e; exact of_decide_eq_true hk
  refine ce_cong hk ⟨fun _ => ⟨rfl, rfl, rfl⟩, fun e => ?_, fun e => ?_, fun e => ?_⟩ ⟨fun _ _ => rfl, fun _ _ => rfl, fun _ _ _ => rfl, fun _ _ _ => rfl, fun _ _ _ => rfl, fun _ _ _ => rfl, fun _ _ _ => rfl, fun _ _ _ => rfl, fun _ _ _ => rfl⟩
  · have := h5 e
    refine ⟨rfl, ?_, ?_⟩ <;> rw [mB_uB, if_neg (by omega)]
  · refine ⟨rfl, ?_, ?_⟩ <;> rw [mB_uB, if_neg (by omega)]
  · refine ⟨?_, rfl⟩; rw [mB_uB, if_neg (by omega)]
theorem oth_N {k i r i' v : Nat} (hr : r = 1 ∧ k = 10 ∧ i = i' ∨ r = 54 ∧ k = 20 ∧ i = i') : ∀ k2 i2, cOk k2 i2 = true → ¬ (k2 = k ∧ i2 = i) → ce G ad (uN g r i' v) k2 i2 = ce G ad g k2 i2 := by
  intro k2 i2 hk he
  refine ce_cong hk ⟨fun _ => ⟨rfl, rfl, rfl⟩, fun _ => ⟨rfl, rfl, rfl⟩, fun e => ⟨?_, rfl, rfl⟩, fun e => ⟨rfl, ?_⟩⟩ ⟨fun _ j => ?_, fun _ j => ?_, fun _ j _ => ?_, fun _ j _ => ?_, fun _ j _ => ?_, fun _ j _ => ?_, fun _ j _ => ?_, fun _ j _ => ?_, fun _ j _ => ?_⟩ <;> rw [mN_uN, if_neg (by omega)]
theorem oth_R {k i r i' v : Nat} (hr : r = 60 ∧ k = 2 ∧ i = 0 ∨ r = 61 ∧ k = 3 ∧ i = 0) : ∀ k2 i2, cOk k2 i2 = true → ¬ (k2 = k ∧ i2 = i) → ce G ad (uN g r i' v) k2 i2 = ce G ad g k2 i2 := by
  intro k2 i2 hk he
  have h2 : k2 = 2 ∨ k2 = 3 → i2 = 0 := fun e => by rcases e with e | e <;> (subst e; exact of_decide_eq_true hk)
  refine ce_cong hk ⟨fun _ => ⟨rfl, rfl, rfl⟩, fun _ => ⟨rfl, rfl, rfl⟩, fun e => ⟨?_, rfl, rfl⟩, fun e => ⟨rfl, ?_⟩⟩ ⟨fun e j => ?_, fun e j => ?_, fun _ j _ => ?_, fun _ j _ => ?_, fun _ j _ => ?_, fun _ j _ => ?_, fun _ j _ => ?_, fun _ j _ => ?_, fun _ j _ => ?_⟩ <;> rw [mN_uN, if_neg (by omega)]
theorem c_ald (C : cxOk G own cc rm nL x) {k i j row len sd : Nat} (d : dn cc pc .iaload 1 nx) (hk : cOk k i = true) (hik : ik k = some (row, len, sd)) (hj : j < len) (kk : VC G x ad h0 g n1 n2 nx lv (.int (nI (mN g row (sd * i + j))) :: st)) : VC G x ad h0 g n1 n2 pc lv (.int (nI j) :: .ref (ad k i) :: st) := fun h hm hf => r_iald (f := fun j => nI (sg g row len sd i j)) C d ((hm.1 k i hk).trans (congrArg some (ce_ik hik))) hj (ik_len hik).1 (by
  show VV G x n1 n2 h nx lv (.int (nI (sg g row len sd i j)) :: st)
  rw [sg_in hj]; exact kk h hm hf)
theorem c_ast (C : cxOk G own cc rm nL x) {k i j v row len sd : Nat} (d : dn cc pc .iastore 1 nx) (hk : cOk k i = true) (hik : ik k = some (row, len, sd)) (hj : j < len) (kk : VC G x ad h0 (uN g row (sd * i + j) v) n1 n2 nx lv st) : VC G x ad h0 g n1 n2 pc lv (.int (nI v) :: .int (nI j) :: .ref (ad k i) :: st) := fun h hm hf => r_iast (f := fun j => nI (sg g row len sd i j)) C d ((hm.1 k i hk).trans (congrArg some (ce_ik hik))) hj (ik_len hik).1 (by
  rw [← ik_self (ad := ad) hik hj]; exact kk _ (co_put hm hk (ik_oth hik hj)) (cfr_put hk _ hf))
theorem c_lald (C : cxOk G own cc rm nL x) {i j : Nat} (d : dn cc pc .laload 1 nx) (hi : i < 2) (hj : j < 40) (kk : VC G x ad h0 g n1 n2 nx lv (.long (lN (mN g 53 (40 * i + j))) :: st)) : VC G x ad h0 g n1 n2 pc lv (.int (nI j) :: .ref (ad 14 i) :: st) := fun h hm hf => r_lald (f := fun j => lN (sg g 53 40 40 i j)) C d ((hm.1 14 i (decide_eq_true hi)).trans rfl) hj (by decide) (by
  show VV G x n1 n2 h nx lv (.long (lN (sg g 53 40 40 i j)) :: st)
  rw [sg_in hj]; exact kk h hm hf)
theorem c_last (C : cxOk G own cc rm nL x) {i j v : Nat} (d : dn cc pc .lastore 1 nx) (hi : i < 2) (hj : j < 40) (kk : VC G x ad h0 (uN g 53 (40 * i + j) v) n1 n2 nx lv st) : VC G x ad h0 g n1 n2 pc lv (.long (lN v) :: .int (nI j) :: .ref (ad 14 i) :: st) := fun h hm hf => r_last (f := fun j => lN (sg g 53 40 40 i j)) C d ((hm.1 14 i (decide_eq_true hi)).trans rfl) hj (by decide) (by
  have e : aJ G 40 (vp_updL (fun j => lN (sg g 53 40 40 i j)) j (lN v)) = ce G ad (uN g 53 (40 * i + j) v) 14 i := by
    show _ = aJ G 40 (fun b => lN (sg (uN g 53 (40 * i + j) v) 53 40 40 i b))
    congr 4
    funext b
    unfold vp_updL sg
    by_cases e : b = j
    · subst e; simp [hj, mN_uN]
    · rw [if_neg e]
      show lN (if b < 40 then mN g 53 (40 * i + b) else 0) = lN (if b < 40 then mN (uN g 53 (40 * i + j) v) 53 (40 * i + b) else 0)
      split
      · rw [mN_uN, if_neg (fun q => e (by omega))]
      · rfl
  rw [e]
  refine kk _ (co_put hm (decide_eq_true hi) fun k2 i2 hk he => ?_) (cfr_put (k := 14) (decide_eq_true hi) _ hf)
  have h14 : k2 = 14 → i2 < 2 := fun e => by subst e; exact of_decide_eq_true hk
  refine ce_cong hk ⟨fun _ => ⟨rfl, rfl, rfl⟩, fun _ => ⟨rfl, rfl, rfl⟩, fun e => ⟨?_, rfl, rfl⟩, fun e => ⟨rfl, ?_⟩⟩ ⟨fun e j => ?_, fun e j => ?_, fun _ j _ => ?_, fun _ j _ => ?_, fun _ j _ => ?_, fun _ j _ => ?_, fun _ j _ => ?_, fun _ j _ => ?_, fun _ j _ => ?_⟩ <;> rw [mN_uN, if_neg (by omega)])
theorem c_aSide (C : cxOk G own cc rm nL x) {s : Nat} (d : dn cc pc .aaload 1 nx) (hs : s < 2) (kk : VC G x ad h0 g n1 n2 nx lv (.ref (ad 10 s) :: st)) : VC G x ad h0 g n1 n2 pc lv (.int (nI s) :: .ref (ad 1 0) :: st) := fun h hm hf => r_aald (t := 5) (f := fun j => if j < 2 then some (ad 10 j) else none) C d (hm.1 1 0 rfl) rfl hs (by decide) (if_pos hs) (kk h hm hf)
theorem c_aRes (C : cxOk G own cc rm nL x) {s : Nat} (d : dn cc pc .aaload 1 nx) (hs : s < 8) (kk : VC G x ad h0 g n1 n2 nx lv (.ref (ad 20 s) :: st)) : VC G x ad h0 g n1 n2 pc lv (.int (nI s) :: .ref (ad 4 0) :: st) := fun h hm hf => r_aald (t := 4) (f := fun j => if j < 8 then some (ad 20 j) else none) C d (hm.1 4 0 rfl) rfl hs (by decide) (if_pos hs) (kk h hm hf)
theorem c_aPile (C : cxOk G own cc rm nL x) {s a : Nat} (d : dn cc pc .aaload 1 nx) (hs : s < 8) (ha : mN g 60 s = a + 1) (kk : VC G x ad h0 g n1 n2 nx lv (.ref a :: st)) : VC G x ad h0 g n1 n2 pc lv (.int (nI s) :: .ref (ad 2 0) :: st) := fun h hm hf => r_aald (t := 3) (f := fun j => dec (mN g 60 j)) C d (hm.1 2 0 rfl) rfl hs (by decide) (by show dec (mN g 60 s) = _; rw [ha]; rfl) (kk h hm hf)
theorem c_aPat (C : cxOk G own cc rm nL x) {s a : Nat} (d : dn cc pc .aaload 1 nx) (hs : s < 12) (ha : mN g 61 s = a + 1) (kk : VC G x ad h0 g n1 n2 nx lv (.ref a :: st)) : VC G x ad h0 g n1 n2 pc lv (.int (nI s) :: .ref (ad 3 0) :: st) := fun h hm hf => r_aald (t := 3) (f := fun j => dec (mN g 61 j)) C d (hm.1 3 0 rfl) rfl hs (by decide) (by show dec (mN g 61 s) = _; rw [ha]; rfl) (kk h hm hf)
theorem va_dec {g : mS} {r s v : Nat} : va_up (fun j => dec (mN g r j)) s (dec v) = fun j => dec (mN (uN g r s v) r j) := by
  funext b
  unfold va_up
  rw [mN_uN]
  by_cases e : b = s <;> simp [e]
theorem c_sPile (C : cxOk G own cc rm nL x) {s a : Nat} {fs : List Value} (d : dn cc pc .aastore 1 nx) (hs : s < 8) (hn : nr ad a) (ha : h0 a = some (oC 0 fs)) (kk : VC G x ad h0 (uN g 60 s (a + 1)) n1 n2 nx lv st) : VC G x ad h0 g n1 n2 pc lv (.ref a :: .int (nI s) :: .ref (ad 2 0) :: st) := fun h hm hf => r_aast (t := 3) (f := fun j => dec (mN g 60 j)) C d (hm.1 2 0 rfl) rfl (hf a _ hn.w ha) rfl hs (by decide) (by
  rw [show (some a : Option Nat) = dec (a + 1) from rfl, va_dec]
  exact kk _ (co_put (k := 2) (i := 0) hm rfl (oth_R (by omega))) (cfr_put (k := 2) (i := 0) rfl _ hf))
theorem c_sPileN (C : cxOk G own cc rm nL x) {s : Nat} (d : dn cc pc .aastore 1 nx) (hs : s < 8) (kk : VC G x ad h0 (uN g 60 s 0) n1 n2 nx lv st) : VC G x ad h0 g n1 n2 pc lv (.null :: .int (nI s) :: .ref (ad 2 0) :: st) := fun h hm hf => r_aastN (t := 3) (f := fun j => dec (mN g 60 j)) C d (hm.1 2 0 rfl) rfl hs (by decide) (by
  rw [show (none : Option Nat) = dec 0 from rfl, va_dec]
  exact kk _ (co_put (k := 2) (i := 0) hm rfl (oth_R (by omega))) (cfr_put (k := 2) (i := 0) rfl _ hf))
theorem c_sPat (C : cxOk G own cc rm nL x) {s a : Nat} {fs : List Value} (d : dn cc pc .aastore 1 nx) (hs : s < 12) (hn : nr ad a) (ha : h0 a = some (oC 0 fs)) (kk : VC G x ad h0 (uN g 61 s (a + 1)) n1 n2 nx lv st) : VC G x ad h0 g n1 n2 pc lv (.ref a :: .int (nI s) :: .ref (ad 3 0) :: st) := fun h hm hf => r_aast (t := 3) (f := fun j => dec (mN g 61 j)) C d (hm.1 3 0 rfl) rfl (hf a _ hn.w ha) rfl hs (by decide) (by
  rw [show (some a : Option Nat) = dec (a + 1) from rfl, va_dec]
  exact kk _ (co_put (k := 3) (i := 0) hm rfl (oth_R (by omega))) (cfr_put (k := 3) (i := 0) rfl _ hf))

end KROWS
/-! contracts of the class's methods -/
def kC (l : Launch) (G : eG) (ad : Nat → Nat → Nat) (h : hp) (y : MethodName) (b : ByteArray) (nL : Nat) (ret : Option FieldType) (rm : Room) (av : List Value) (post : Option Value → mS → hp → Prop) : Prop := MC l G y b nL ret rm av h (fun v h' => ∃ g', post v g' h' ∧ co G ad g' h' ∧ cfr ad h h')
def kX (l : Launch) (G : eG) (ad : Nat → Nat → Nat) (h : hp) (y : MethodName) (b : ByteArray) (nL : Nat) (ret : Option FieldType) (rm : Room) (av : List Value) (post : Option Value → mS → hp → Prop) (xp : String → mS → Prop) : Prop := MX l G y b nL ret rm av h (fun v h' => ∃ g', post v g' h' ∧ co G ad g' h' ∧ cfr ad h h') (fun E h' => ∃ g', xp E g' ∧ co G ad g' h' ∧ cfr ad h h')
def kEnd (G : eG) (x : CX) (ad : Nat → Nat → Nat) (h0 : hp) (mc ms : Nat) (post : Option Value → mS → hp → Prop) : Prop := cxR G (fun v h' => ∃ g', post v g' h' ∧ co G ad g' h' ∧ cfr ad h0 h') mc ms x
def kXx (G : eG) (x : CX) (ad : Nat → Nat → Nat) (h0 : hp) (mc ms : Nat) (post : Option Value → mS → hp → Prop) (xp : String → mS → Prop) : Prop := cxX G (fun v h' => ∃ g', post v g' h' ∧ co G ad g' h' ∧ cfr ad h0 h') (fun E h' => ∃ g', xp E g' ∧ co G ad g' h' ∧ cfr ad h0 h') mc ms x
theorem kC.of {l : Launch} {G : eG} {ad : Nat → Nat → Nat} {h : hp} {g : mS} {y : MethodName} {b : ByteArray} {nL : Nat} {ret : Option FieldType} {rm : Room} {av : List Value} {post : Option Value → mS → hp → Prop} (hm : co G ad g h) (hy : plainName y.cls = true) (hlen : (lg_sl av).length ≤ nL)
    (body : ∀ x, cxOk G y.cls b rm nL x → kEnd G x ad h rm.cells rm.slots post → cxT ret x → VC G x ad h g 0 0 0 (lv_args 0 av) []) : kC l G ad h y b nL ret rm av post := MC.of hy hlen (fun x C A T _ => body x C A T h hm cfr_rf)
theorem kX.of {l : Launch} {G : eG} {ad : Nat → Nat → Nat} {h : hp} {g : mS} {y : MethodName} {b : ByteArray} {nL : Nat} {ret : Option FieldType} {rm : Room} {av : List Value} {post : Option Value → mS → hp → Prop} {xp : String → mS → Prop} (hlf : l.stackTraces = false) (hm : co G ad g h) (hy : plainName y.cls = true) (hlen : (lg_sl av).length ≤ nL)
    (body : ∀ x, cxOk G y.cls b rm nL x → kEnd G x ad h rm.cells rm.slots post → cxT ret x → kXx G x ad h rm.cells rm.slots post xp → VC G x ad h g 0 0 0 (lv_args 0 av) []) : kX l G ad h y b nL ret rm av post xp := MX.of hlf hy hlen (fun x C A T X => body x C A T X h hm cfr_rf)
section KCALLS
variable {G : eG} {x : CX} {ad : Nat → Nat → Nat} {hb h0 : hp} {g : mS} {n1 n2 mc ms : Nat} {pc nx : Nat} {lv : List (Nat × Value)} {st rest : List Value} {own : String} {cc b : ByteArray} {rm R0 : Room} {nL maxL i n : Nat} {y : MethodName} {ret : Option FieldType} {As : List Value} {post p0 : Option Value → mS → hp → Prop} {xp x0 : String → mS → Prop}
theorem k_iret (C : cxOk G own cc rm nL x) {v : Int32} {ty : FieldType} (A : kEnd G x ad hb mc ms post) (hb0 : cfr ad hb h0) (T2 : cxT (some ty) x) (d : dn cc pc .ireturn 1 nx) (hn : narrow ty (.int v) = .int v) (h1 : n1 ≤ mc) (h2 : n2 ≤ ms) (e : ∀ h, cfr ad h0 h → post (some (.int v)) g h) : VC G x ad h0 g n1 n2 pc lv [.int v] := fun h hm hf => r_iret C A T2 d hn h1 h2 ⟨g, e h hf, hm, cfr_tr hb0 hf⟩
theorem k_vret (C : cxOk G own cc rm nL x) (A : kEnd G x ad hb mc ms post) (hb0 : cfr ad hb h0) (T2 : cxT none x) (d : dn cc pc .return_ 1 nx) (h1 : n1 ≤ mc) (h2 : n2 ≤ ms) (e : ∀ h, cfr ad h0 h → post none g h) : VC G x ad h0 g n1 n2 pc lv [] := fun h hm hf => r_vret C A T2 d h1 h2 ⟨g, e h hf, hm, cfr_tr hb0 hf⟩
theorem k_lret (C : cxOk G own cc rm nL x) {v : Int64} (A : kEnd G x ad hb mc ms post) (hb0 : cfr ad hb h0) (T2 : cxT (some .long) x) (d : dn cc pc .lreturn 1 nx) (h1 : n1 ≤ mc) (h2 : n2 ≤ ms) (e : ∀ h, cfr ad h0 h → post (some (.long v)) g h) : VC G x ad h0 g n1 n2 pc lv [.long v] := fun h hm hf => r_lret C A T2 d h1 h2 ⟨g, e h hf, hm, cfr_tr hb0 hf⟩
theorem k_aret (C : cxOk G own cc rm nL x) {v : Nat} {CN : String} (A : kEnd G x ad hb mc ms post) (hb0 : cfr ad hb h0) (T2 : cxT (some (.object CN)) x) (d : dn cc pc .areturn 1 nx) (h1 : n1 ≤ mc) (h2 : n2 ≤ ms) (e : ∀ h, cfr ad h0 h → post (some (.ref v)) g h) : VC G x ad h0 g n1 n2 pc lv [.ref v] := fun h hm hf => r_aret C A T2 d h1 h2 ⟨g, e h hf, hm, cfr_tr hb0 hf⟩
theorem k_throw (C : cxOk G RX6 cc rm nL x) (X : kXx G x ad hb rm.cells rm.slots post xp) (hb0 : cfr ad hb h0) {p1 p2 p3 p4 p5 ik is ic : Nat} {cls : String} (d0 : dn cc pc (.new ik) 3 p1) (d1 : dn cc p1 .dup 1 p2) (d2 : dn cc p2 (.ldc is) 2 p3) (d3 : dn cc p3 (.invokespecial ic) 3 p4) (d4 : dn cc p4 .athrow 1 p5) (F : thOk ik ic cls) {text : String} (hst : (is, text) ∈ strs)
    (hR : 5 < rm.frames ∧ (st.map fun v => v.category).sum + 82 ≤ rm.locals ∧ n1 + 1 ≤ rm.cells ∧ n2 + 6 ≤ rm.slots) (hx : xp cls g) : VC G x ad h0 g n1 n2 pc lv st := fun h hm hf => r_throw C X d0 d1 d2 d3 d4 F hst hR ⟨g, hx, hm, cfr_tr hb0 hf⟩
/-- a call on a root's object -/
theorem k_callV (C : cxOk G own cc R0 nL x) (d : dn cc pc (.invokevirtual i) 3 nx) (F : okV own i y b maxL ret n) {k i' ci : Nat} {fs : List Value} {r : vw_C} (M : ∀ l h, co G ad g h → cfr ad h0 h → kC l G ad h y b maxL ret rm (.ref (ad k i') :: As) post) (hk : cOk k i' = true) (he : ce G ad g k i' = oC ci fs) (hc : vwCl[ci]? = some r) (hcy : r.1 = y.cls) (hn : As.length = n) (hst : st = As.reverse ++ .ref (ad k i') :: rest) (hcat : (rest.map fun v => v.category).sum ≤ 8) (hR : rmIn rm R0 maxL n1 n2)
    (kk : ∀ v g' h', post v g' h' → cfr ad h0 h' → VC G x ad h' g' (n1 + rm.cells) (n2 + rm.slots) nx lv (v.toList ++ rest)) : VC G x ad h0 g n1 n2 pc lv st := fun h hm hf => r_callV C d F (fun l _ => M l h hm hf) ((hm.1 k i' hk).trans (congrArg some he)) hc hcy hn hst hcat hR (fun v h' ⟨g', e, hm', hf'⟩ => kk v g' h' e (cfr_tr hf hf') h' hm' cfr_rf)
/-- a call on what is no root -/
theorem k_callW (C : cxOk G own cc R0 nL x) (d : dn cc pc (.invokevirtual i) 3 nx) (F : okV own i y b maxL ret n) {a ci : Nat} {fs : List Value} {r : vw_C} (M : ∀ l h, co G ad g h → cfr ad h0 h → kC l G ad h y b maxL ret rm (.ref a :: As) post) (ha : nr ad a) (he : h0 a = some (oC ci fs)) (hc : vwCl[ci]? = some r) (hcy : r.1 = y.cls) (hn : As.length = n) (hst : st = As.reverse ++ .ref a :: rest) (hcat : (rest.map fun v => v.category).sum ≤ 8) (hR : rmIn rm R0 maxL n1 n2)
    (kk : ∀ v g' h', post v g' h' → cfr ad h0 h' → VC G x ad h' g' (n1 + rm.cells) (n2 + rm.slots) nx lv (v.toList ++ rest)) : VC G x ad h0 g n1 n2 pc lv st := fun h hm hf => r_callV C d F (fun l _ => M l h hm hf) (hf a _ ha.w he) hc hcy hn hst hcat hR (fun v h' ⟨g', e, hm', hf'⟩ => kk v g' h' e (cfr_tr hf hf') h' hm' cfr_rf)
theorem k_callS (C : cxOk G own cc R0 nL x) (d : dn cc pc (.invokestatic i) 3 nx) (F : okS own i y b maxL ret n) (M : ∀ l h, co G ad g h → cfr ad h0 h → kC l G ad h y b maxL ret rm As post) (hn : As.length = n) (hst : st = As.reverse ++ rest) (hcat : (rest.map fun v => v.category).sum ≤ 8) (hR : rmIn rm R0 maxL n1 n2)
    (kk : ∀ v g' h', post v g' h' → cfr ad h0 h' → VC G x ad h' g' (n1 + rm.cells) (n2 + rm.slots) nx lv (v.toList ++ rest)) : VC G x ad h0 g n1 n2 pc lv st := fun h hm hf => r_callS C d F (fun l _ => M l h hm hf) hn hst hcat hR (fun v h' ⟨g', e, hm', hf'⟩ => kk v g' h' e (cfr_tr hf hf') h' hm' cfr_rf)
/-- a static call that only adds to the heap -/
theorem k_callA (C : cxOk G own cc R0 nL x) (d : dn cc pc (.invokestatic i) 3 nx) (F : okS own i y b maxL ret n) {pa : Option Value → hp → hp → Prop} (M : ∀ l h, co G ad g h → cfr ad h0 h → MC l G y b maxL ret rm As h (fun v h' => pa v h h' ∧ hle h h')) (hn : As.length = n) (hst : st = As.reverse ++ rest) (hcat : (rest.map fun v => v.category).sum ≤ 8) (hR : rmIn rm R0 maxL n1 n2)
    (kk : ∀ v h h', co G ad g h → pa v h h' → cfr ad h0 h → hle h h' → VC G x ad h' g (n1 + rm.cells) (n2 + rm.slots) nx lv (v.toList ++ rest)) : VC G x ad h0 g n1 n2 pc lv st := fun h hm hf => r_callS C d F (fun l _ => M l h hm hf) hn hst hcat hR (fun v h' ⟨e, hl⟩ => kk v h h' hm e hf hl h' (hm.le hl) cfr_rf)
theorem k_callVX (C : cxOk G own cc R0 nL x) (X : kXx G x ad hb R0.cells R0.slots p0 x0) (hb0 : cfr ad hb h0) (d : dn cc pc (.invokevirtual i) 3 nx) (F : okV own i y b maxL ret n) {k i' ci : Nat} {fs : List Value} {r : vw_C} (M : ∀ l h, l.stackTraces = false → co G ad g h → cfr ad h0 h → kX l G ad h y b maxL ret rm (.ref (ad k i') :: As) post xp) (hk : cOk k i' = true) (he : ce G ad g k i' = oC ci fs) (hc : vwCl[ci]? = some r) (hcy : r.1 = y.cls) (hn : As.length = n) (hst : st = As.reverse ++ .ref (ad k i') :: rest) (hcat : (rest.map fun v => v.category).sum ≤ 8) (hR : rmIn rm R0 maxL n1 n2) (hxx : ∀ E g', xp E g' → x0 E g')
    (kk : ∀ v g' h', post v g' h' → cfr ad h0 h' → VC G x ad h' g' (n1 + rm.cells) (n2 + rm.slots) nx lv (v.toList ++ rest)) : VC G x ad h0 g n1 n2 pc lv st := fun h hm hf => r_callVX C X d F (fun l _ hl => M l h hl hm hf) ((hm.1 k i' hk).trans (congrArg some he)) hc hcy hn hst hcat hR (fun E h' ⟨g', e, hm', hf'⟩ => ⟨g', hxx E g' e, hm', cfr_tr (cfr_tr hb0 hf) hf'⟩) (fun v h' ⟨g', e, hm', hf'⟩ => kk v g' h' e (cfr_tr hf hf') h' hm' cfr_rf)
theorem k_callSX (C : cxOk G own cc R0 nL x) (X : kXx G x ad hb R0.cells R0.slots p0 x0) (hb0 : cfr ad hb h0) (d : dn cc pc (.invokestatic i) 3 nx) (F : okS own i y b maxL ret n) (M : ∀ l h, l.stackTraces = false → co G ad g h → cfr ad h0 h → kX l G ad h y b maxL ret rm As post xp) (hn : As.length = n) (hst : st = As.reverse ++ rest) (hcat : (rest.map fun v => v.category).sum ≤ 8) (hR : rmIn rm R0 maxL n1 n2) (hxx : ∀ E g', xp E g' → x0 E g')
    (kk : ∀ v g' h', post v g' h' → cfr ad h0 h' → VC G x ad h' g' (n1 + rm.cells) (n2 + rm.slots) nx lv (v.toList ++ rest)) : VC G x ad h0 g n1 n2 pc lv st := fun h hm hf => r_callSX C X d F (fun l _ hl => M l h hl hm hf) hn hst hcat hR (fun E h' ⟨g', e, hm', hf'⟩ => ⟨g', hxx E g' e, hm', cfr_tr (cfr_tr hb0 hf) hf'⟩) (fun v h' ⟨g', e, hm', hf'⟩ => kk v g' h' e (cfr_tr hf hf') h' hm' cfr_rf)
/-- a static call of numbers -/
theorem k_callP (C : cxOk G own cc R0 nL x) (d : dn cc pc (.invokestatic i) 3 nx) (F : okS own i y b maxL ret n) {r : Option Value} (M : sC y b maxL ret rm As r) (hn : As.length = n) (hst : st = As.reverse ++ rest) (hcat : (rest.map fun v => v.category).sum ≤ 8) (hR : rmIn rm R0 maxL n1 n2)
    (kk : VC G x ad h0 g (n1 + rm.cells) (n2 + rm.slots) nx lv (r.toList ++ rest)) : VC G x ad h0 g n1 n2 pc lv st := fun h hm hf => r_callS C d F (fun l _ => M l G h) hn hst hcat hR (fun v h' ⟨e, e2⟩ => by subst e; subst e2; exact kk _ hm hf)
end KCALLS
theorem c_base {G : eG} {x : CX} {ad : Nat → Nat → Nat} {h0 h9 : hp} {g : mS} {n1 n2 pc : Nat} {lv : List (Nat × Value)} {st : List Value} (F : cfr ad h0 h9) (kk : VC G x ad h0 g n1 n2 pc lv st) : VC G x ad h9 g n1 n2 pc lv st := fun h hm hf => kk h hm (cfr_tr F hf)
theorem bI_fit (b : Bool) : fits .boolean (.int (bI b)) = true := by cases b <;> rfl
theorem c_K0 {G : eG} {x : CX} {ad : Nat → Nat → Nat} {h0 : hp} {g : mS} {n1 n2 pc c : Nat} {lv : List (Nat × Value)} {st : List Value} (kk : VC G x ad h0 (uK g 0 c) n1 n2 pc lv st) : VC G x ad h0 g n1 n2 pc lv st := fun h hm hf => kk h (hm.cong (fun k i hk => ce_cong hk ⟨fun _ => ⟨rfl, rfl, rfl⟩, fun _ => ⟨rfl, rfl, rfl⟩, fun _ => ⟨rfl, rfl, rfl⟩, fun _ => ⟨rfl, rfl⟩⟩ ⟨fun _ _ => rfl, fun _ _ => rfl, fun _ _ _ => rfl, fun _ _ _ => rfl, fun _ _ _ => rfl, fun _ _ _ => rfl, fun _ _ _ => rfl, fun _ _ _ => rfl, fun _ _ _ => rfl⟩)) hf

