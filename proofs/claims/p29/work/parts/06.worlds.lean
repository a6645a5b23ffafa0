/-! the reference's worlds: one object, nineteen rows; a state holds what they hold -/
abbrev mS : Type := (Nat → Nat) × (Nat → Nat → Nat) × (Nat → Nat → Bool) × (Nat → Nat → Int32)
def mK (S : mS) (k : Nat) : Nat := S.1 k
def mN (S : mS) (k i : Nat) : Nat := S.2.1 k i
def mB (S : mS) (k i : Nat) : Bool := S.2.2.1 k i
def mI (S : mS) (k i : Nat) : Int32 := S.2.2.2 k i
def uK (S : mS) (k v : Nat) : mS := (fun j => if j = k then v else S.1 j, S.2)
def uN (S : mS) (k i v : Nat) : mS := (S.1, fun j b => if j = k ∧ b = i then v else S.2.1 j b, S.2.2)
def uB (S : mS) (k i : Nat) (v : Bool) : mS := (S.1, S.2.1, fun j b => if j = k ∧ b = i then v else S.2.2.1 j b, S.2.2.2)
def uI (S : mS) (k i : Nat) (v : Int32) : mS := (S.1, S.2.1, S.2.2.1, fun j b => if j = k ∧ b = i then v else S.2.2.2 j b)
theorem mS_ext {S T : mS} (h1 : ∀ k, mK S k = mK T k) (h2 : ∀ k i, mN S k i = mN T k i) (h3 : ∀ k i, mB S k i = mB T k i) (h4 : ∀ k i, mI S k i = mI T k i) : S = T := by
  obtain ⟨a, b, c, d⟩ := S
  obtain ⟨a', b', c', d'⟩ := T
  have e1 : a = a' := funext h1
  have e2 : b = b' := funext fun k => funext fun i => h2 k i
  have e3 : c = c' := funext fun k => funext fun i => h3 k i
  have e4 : d = d' := funext fun k => funext fun i => h4 k i
  rw [e1, e2, e3, e4]
section ACC
variable (S : mS) (k i v j b : Nat) (w : Bool) (z : Int32)
theorem mK_uK : mK (uK S k v) j = if j = k then v else mK S j := rfl
theorem mN_uK : mN (uK S k v) j b = mN S j b := rfl
theorem mB_uK : mB (uK S k v) j b = mB S j b := rfl
theorem mI_uK : mI (uK S k v) j b = mI S j b := rfl
theorem mK_uN : mK (uN S k i v) j = mK S j := rfl
theorem mN_uN : mN (uN S k i v) j b = if j = k ∧ b = i then v else mN S j b := rfl
theorem mB_uN : mB (uN S k i v) j b = mB S j b := rfl
theorem mI_uN : mI (uN S k i v) j b = mI S j b := rfl
theorem mK_uB : mK (uB S k i w) j = mK S j := rfl
theorem mN_uB : mN (uB S k i w) j b = mN S j b := rfl
theorem mB_uB : mB (uB S k i w) j b = if j = k ∧ b = i then w else mB S j b := rfl
theorem mI_uB : mI (uB S k i w) j b = mI S j b := rfl
theorem mK_uI : mK (uI S k i z) j = mK S j := rfl
theorem mN_uI : mN (uI S k i z) j b = mN S j b := rfl
theorem mB_uI : mB (uI S k i z) j b = mB S j b := rfl
theorem mI_uI : mI (uI S k i z) j b = if j = k ∧ b = i then z else mI S j b := rfl
end ACC
/-- a row set whole -/
def sN (S : mS) (k : Nat) (f : Nat → Nat) : mS := (S.1, fun j => if j = k then f else S.2.1 j, S.2.2)
def sB (S : mS) (k : Nat) (f : Nat → Bool) : mS := (S.1, S.2.1, fun j => if j = k then f else S.2.2.1 j, S.2.2.2)
def sI (S : mS) (k : Nat) (f : Nat → Int32) : mS := (S.1, S.2.1, S.2.2.1, fun j => if j = k then f else S.2.2.2 j)
section ACC2
variable (S : mS) (k j b : Nat) (f : Nat → Nat) (g : Nat → Bool) (z : Nat → Int32)
theorem mK_sN : mK (sN S k f) j = mK S j := rfl
theorem mN_sN : mN (sN S k f) j b = if j = k then f b else mN S j b := by show (if j = k then f else S.2.1 j) b = _; split <;> rfl
theorem mB_sN : mB (sN S k f) j b = mB S j b := rfl
theorem mI_sN : mI (sN S k f) j b = mI S j b := rfl
theorem mK_sB : mK (sB S k g) j = mK S j := rfl
theorem mN_sB : mN (sB S k g) j b = mN S j b := rfl
theorem mB_sB : mB (sB S k g) j b = if j = k then g b else mB S j b := by show (if j = k then g else S.2.2.1 j) b = _; split <;> rfl
theorem mI_sB : mI (sB S k g) j b = mI S j b := rfl
theorem mK_sI : mK (sI S k z) j = mK S j := rfl
theorem mN_sI : mN (sI S k z) j b = mN S j b := rfl
theorem mB_sI : mB (sI S k z) j b = mB S j b := rfl
theorem mI_sI : mI (sI S k z) j b = if j = k then z b else mI S j b := by show (if j = k then z else S.2.2.2 j) b = _; split <;> rfl
end ACC2
/-- the rows' lengths, by the fields' places -/
def mlen (k : Nat) : Nat := match k with
  | 1 => 2 | 2 => 240 | 3 => 80 | 4 => 80 | 5 => 2 | 6 => 2 | 7 => 40 | 8 => 21 | 9 => 21 | 10 => 5376 | 11 => 504 | 12 => 1008 | 13 => 168 | 14 => 168 | 17 => 256 | 18 => 256 | 19 => 3 | 20 => 8 | 21 => 320 | 22 => 100 | _ => 0
/-- what kind of row: 0 no row, 1 numbers, 2 booleans, 3 long numbers, 4 ints -/
def mkind (k : Nat) : Nat := match k with
  | 1 | 2 | 3 | 4 | 8 | 13 | 14 | 21 | 22 => 1 | 5 | 6 | 9 | 10 | 17 | 18 => 2 | 7 | 12 => 3 | 11 | 19 | 20 => 4 | _ => 0
def mfs (q : Nat → Nat) (S : mS) : List Value := [.int (nI (mK S 0)), .ref (q 1), .ref (q 2), .ref (q 3), .ref (q 4), .ref (q 5), .ref (q 6), .ref (q 7), .ref (q 8), .ref (q 9), .ref (q 10), .ref (q 11), .ref (q 12), .ref (q 13), .ref (q 14), .int (nI (mK S 15)), .int (nI (mK S 16)), .ref (q 17), .ref (q 18), .ref (q 19), .ref (q 20), .ref (q 21), .ref (q 22)]
def mcell (G : eG) (S : mS) (k : Nat) : va_E := match mkind k with
  | 1 => aI G (mlen k) (fun i => nI (mN S k i))
  | 2 => aZ G (mlen k) (fun i => bI (mB S k i))
  | 3 => aJ G (mlen k) (fun i => lN (mN S k i))
  | _ => aI G (mlen k) (fun i => mI S k i)
def mo (G : eG) (q : Nat → Nat) (S : mS) (h : hp) : Prop := h (q 0) = some (oC 6 (mfs q S)) ∧ (∀ k, k ≤ 22 → mkind k ≠ 0 → h (q k) = some (mcell G S k)) ∧ ∀ i j, i ≤ 22 → j ≤ 22 → (i = 0 ∨ mkind i ≠ 0) → (j = 0 ∨ mkind j ≠ 0) → q i = q j → i = j
/-- what isn't of the reference's world stays -/
def mfr (q : Nat → Nat) (h h' : hp) : Prop := ∀ a, (∀ k, k ≤ 22 → a ≠ q k) → h' a = h a
theorem mfr_rf {q : Nat → Nat} {h : hp} : mfr q h h := fun _ _ => rfl
theorem mfr_tr {q : Nat → Nat} {h h' h'' : hp} (a : mfr q h h') (b : mfr q h' h'') : mfr q h h'' := fun x hx => (b x hx).trans (a x hx)
theorem mo_put {G : eG} {q : Nat → Nat} {S T : mS} {h : hp} (hm : mo G q S h) {k : Nat} (hk : k ≤ 22) (hk0 : mkind k ≠ 0) (hK : mfs q T = mfs q S) (ho : ∀ j, j ≤ 22 → mkind j ≠ 0 → j ≠ k → mcell G T j = mcell G S j) : mo G q T (hup h (q k) (mcell G T k)) := by
  obtain ⟨h1, h2, h3⟩ := hm
  refine ⟨?_, fun j hj hj0 => ?_, h3⟩
  · rw [hup_n (fun e => by have := h3 0 k (by omega) hk (Or.inl rfl) (Or.inr hk0) e; subst this; exact hk0 rfl), h1, hK]
  · by_cases e : j = k
    · subst e; exact hup_s
    · rw [hup_n (fun z => e (h3 j k hj hk (Or.inr hj0) (Or.inr hk0) z)), h2 j hj hj0, ho j hj hj0 e]
theorem mfr_put {q : Nat → Nat} {h0 h : hp} {k : Nat} (hk : k ≤ 22) (e : va_E) (hf : mfr q h0 h) : mfr q h0 (hup h (q k) e) := fun a ha => by
  rw [hup_n (ha k hk)]; exact hf a ha
def VM (G : eG) (x : CX) (q : Nat → Nat) (h0 : hp) (S : mS) (pc : Nat) (lv : List (Nat × Value)) (st : List Value) : Prop := ∀ h, mo G q S h → mfr q h0 h → VV G x 0 0 h pc lv st

section MROWS
variable {G : eG} {x : CX} {q : Nat → Nat} {h0 : hp} {S : mS} {pc nx : Nat} {lv : List (Nat × Value)} {st : List Value} {own : String} {cc : ByteArray} {rm : Room} {nL : Nat}
theorem m_iconst (C : cxOk G own cc rm nL x) {i : Int} {v : Int32} (d : dn cc pc (.iconst i) 1 nx) (hv : Int32.ofInt i = v) (kk : VM G x q h0 S nx lv (.int v :: st)) : VM G x q h0 S pc lv (st) := fun h hm hf => r_iconst C d hv (kk h hm hf)
theorem m_bipush (C : cxOk G own cc rm nL x) {i : Int} {v : Int32} (d : dn cc pc (.bipush i) 2 nx) (hv : (Int8.ofInt i).toInt32 = v) (kk : VM G x q h0 S nx lv (.int v :: st)) : VM G x q h0 S pc lv (st) := fun h hm hf => r_bipush C d hv (kk h hm hf)
theorem m_sipush (C : cxOk G own cc rm nL x) {i : Int} {v : Int32} (d : dn cc pc (.sipush i) 3 nx) (hv : (Int16.ofInt i).toInt32 = v) (kk : VM G x q h0 S nx lv (.int v :: st)) : VM G x q h0 S pc lv (st) := fun h hm hf => r_sipush C d hv (kk h hm hf)
theorem m_lconst (C : cxOk G own cc rm nL x) {i : Fin 2} {v : Int64} (d : dn cc pc (.lconst i) 1 nx) (hv : Int64.ofNat (i : Nat) = v) (kk : VM G x q h0 S nx lv (.long v :: st)) : VM G x q h0 S pc lv (st) := fun h hm hf => r_lconst C d hv (kk h hm hf)
theorem m_null (C : cxOk G own cc rm nL x) (d : dn cc pc (.aconst_null) 1 nx)  (kk : VM G x q h0 S nx lv (.null :: st)) : VM G x q h0 S pc lv (st) := fun h hm hf => r_null C d (kk h hm hf)
theorem m_ldc (C : cxOk G own cc rm nL x) {i : Nat} {v : Int32} (d : dn cc pc (.ldc i) 2 nx) (hc : Jvm.Cond.constant own i v ∈ TB) (kk : VM G x q h0 S nx lv (.int v :: st)) : VM G x q h0 S pc lv (st) := fun h hm hf => r_ldc C d hc (kk h hm hf)
theorem m_ldc2 (C : cxOk G own cc rm nL x) {i : Nat} {v : Int64} (d : dn cc pc (.ldc2_w i) 3 nx) (hc : Jvm.Cond.constantLong own i v ∈ TB) (kk : VM G x q h0 S nx lv (.long v :: st)) : VM G x q h0 S pc lv (st) := fun h hm hf => r_ldc2 C d hc (kk h hm hf)
theorem m_iload_n (C : cxOk G own cc rm nL x) {i : Fin 4} {v : Int32} (d : dn cc pc (.iload_n i) 1 nx) (j : Nat) (hk : lv[j]? = some ((i : Nat), .int v)) (kk : VM G x q h0 S nx lv (.int v :: st)) : VM G x q h0 S pc lv (st) := fun h hm hf => r_iload_n C d j hk (kk h hm hf)
theorem m_iload (C : cxOk G own cc rm nL x) {i : Nat} {v : Int32} (d : dn cc pc (.iload i) 2 nx) (j : Nat) (hk : lv[j]? = some (i, .int v)) (kk : VM G x q h0 S nx lv (.int v :: st)) : VM G x q h0 S pc lv (st) := fun h hm hf => r_iload C d j hk (kk h hm hf)
theorem m_lload_n (C : cxOk G own cc rm nL x) {i : Fin 4} {v : Int64} (d : dn cc pc (.lload_n i) 1 nx) (j : Nat) (hk : lv[j]? = some ((i : Nat), .long v)) (kk : VM G x q h0 S nx lv (.long v :: st)) : VM G x q h0 S pc lv (st) := fun h hm hf => r_lload_n C d j hk (kk h hm hf)
theorem m_lload (C : cxOk G own cc rm nL x) {i : Nat} {v : Int64} (d : dn cc pc (.lload i) 2 nx) (j : Nat) (hk : lv[j]? = some (i, .long v)) (kk : VM G x q h0 S nx lv (.long v :: st)) : VM G x q h0 S pc lv (st) := fun h hm hf => r_lload C d j hk (kk h hm hf)
theorem m_aload_n (C : cxOk G own cc rm nL x) {i : Fin 4} {v : Nat} (d : dn cc pc (.aload_n i) 1 nx) (j : Nat) (hk : lv[j]? = some ((i : Nat), .ref v)) (kk : VM G x q h0 S nx lv (.ref v :: st)) : VM G x q h0 S pc lv (st) := fun h hm hf => r_aload_n C d j hk (kk h hm hf)
theorem m_aload (C : cxOk G own cc rm nL x) {i : Nat} {v : Nat} (d : dn cc pc (.aload i) 2 nx) (j : Nat) (hk : lv[j]? = some (i, .ref v)) (kk : VM G x q h0 S nx lv (.ref v :: st)) : VM G x q h0 S pc lv (st) := fun h hm hf => r_aload C d j hk (kk h hm hf)
theorem m_istore_n (C : cxOk G own cc rm nL x) {i : Fin 4} {v : Int32} (d : dn cc pc (.istore_n i) 1 nx) {lv' : List (Nat × Value)} (hn : (i : Nat) < nL) (hl2 : ((i : Nat), Value.int v) :: lv.filter (fun q => !(q.1 == (i : Nat)) && !(q.1 + 1 == (i : Nat) && q.2.category == 2)) = lv') (kk : VM G x q h0 S nx lv' (st)) : VM G x q h0 S pc lv (.int v :: st) := fun h hm hf => r_istore_n C d hn hl2 (kk h hm hf)
theorem m_istore (C : cxOk G own cc rm nL x) {i : Nat} {v : Int32} (d : dn cc pc (.istore i) 2 nx) {lv' : List (Nat × Value)} (hn : i < nL) (hl2 : (i, Value.int v) :: lv.filter (fun q => !(q.1 == i) && !(q.1 + 1 == i && q.2.category == 2)) = lv') (kk : VM G x q h0 S nx lv' (st)) : VM G x q h0 S pc lv (.int v :: st) := fun h hm hf => r_istore C d hn hl2 (kk h hm hf)
theorem m_astore_n (C : cxOk G own cc rm nL x) {i : Fin 4} {v : Nat} (d : dn cc pc (.astore_n i) 1 nx) {lv' : List (Nat × Value)} (hn : (i : Nat) < nL) (hl2 : ((i : Nat), Value.ref v) :: lv.filter (fun q => !(q.1 == (i : Nat)) && !(q.1 + 1 == (i : Nat) && q.2.category == 2)) = lv') (kk : VM G x q h0 S nx lv' (st)) : VM G x q h0 S pc lv (.ref v :: st) := fun h hm hf => r_astore_n C d hn hl2 (kk h hm hf)
theorem m_astore (C : cxOk G own cc rm nL x) {i : Nat} {v : Nat} (d : dn cc pc (.astore i) 2 nx) {lv' : List (Nat × Value)} (hn : i < nL) (hl2 : (i, Value.ref v) :: lv.filter (fun q => !(q.1 == i) && !(q.1 + 1 == i && q.2.category == 2)) = lv') (kk : VM G x q h0 S nx lv' (st)) : VM G x q h0 S pc lv (.ref v :: st) := fun h hm hf => r_astore C d hn hl2 (kk h hm hf)
theorem m_lstore_n (C : cxOk G own cc rm nL x) {i : Fin 4} {v : Int64} (d : dn cc pc (.lstore_n i) 1 nx) {lv' : List (Nat × Value)} (hn : (i : Nat) + 1 < nL) (hl2 : ((i : Nat), Value.long v) :: lv.filter (fun q => !(q.1 == (i : Nat)) && (!(q.1 == (i : Nat) + 1) && !(q.1 + 1 == (i : Nat) && q.2.category == 2))) = lv') (kk : VM G x q h0 S nx lv' (st)) : VM G x q h0 S pc lv (.long v :: st) := fun h hm hf => r_lstore_n C d hn hl2 (kk h hm hf)
theorem m_lstore (C : cxOk G own cc rm nL x) {i : Nat} {v : Int64} (d : dn cc pc (.lstore i) 2 nx) {lv' : List (Nat × Value)} (hn : i + 1 < nL) (hl2 : (i, Value.long v) :: lv.filter (fun q => !(q.1 == i) && (!(q.1 == i + 1) && !(q.1 + 1 == i && q.2.category == 2))) = lv') (kk : VM G x q h0 S nx lv' (st)) : VM G x q h0 S pc lv (.long v :: st) := fun h hm hf => r_lstore C d hn hl2 (kk h hm hf)
theorem m_iinc (C : cxOk G own cc rm nL x) {i : Nat} {k : Int} {a v : Int32} (d : dn cc pc (.iinc i k) 3 nx) {lv' : List (Nat × Value)} (j : Nat) (hk : lv[j]? = some (i, .int a)) (hv : a + Int32.ofInt k = v) (hn : i < nL) (hl2 : (i, Value.int v) :: lv.filter (fun q => !(q.1 == i) && !(q.1 + 1 == i && q.2.category == 2)) = lv') (kk : VM G x q h0 S nx lv' (st)) : VM G x q h0 S pc lv (st) := fun h hm hf => r_iinc C d j hk hv hn hl2 (kk h hm hf)
theorem m_iadd (C : cxOk G own cc rm nL x) {a b : Int32} (d : dn cc pc (.iadd) 1 nx)  (kk : VM G x q h0 S nx lv (.int (a + b) :: st)) : VM G x q h0 S pc lv (.int b :: .int a :: st) := fun h hm hf => r_iadd C d (kk h hm hf)
theorem m_isub (C : cxOk G own cc rm nL x) {a b : Int32} (d : dn cc pc (.isub) 1 nx)  (kk : VM G x q h0 S nx lv (.int (a - b) :: st)) : VM G x q h0 S pc lv (.int b :: .int a :: st) := fun h hm hf => r_isub C d (kk h hm hf)
theorem m_imul (C : cxOk G own cc rm nL x) {a b : Int32} (d : dn cc pc (.imul) 1 nx)  (kk : VM G x q h0 S nx lv (.int (a * b) :: st)) : VM G x q h0 S pc lv (.int b :: .int a :: st) := fun h hm hf => r_imul C d (kk h hm hf)
theorem m_iand (C : cxOk G own cc rm nL x) {a b : Int32} (d : dn cc pc (.iand) 1 nx)  (kk : VM G x q h0 S nx lv (.int (a &&& b) :: st)) : VM G x q h0 S pc lv (.int b :: .int a :: st) := fun h hm hf => r_iand C d (kk h hm hf)
theorem m_ior (C : cxOk G own cc rm nL x) {a b : Int32} (d : dn cc pc (.ior) 1 nx)  (kk : VM G x q h0 S nx lv (.int (a ||| b) :: st)) : VM G x q h0 S pc lv (.int b :: .int a :: st) := fun h hm hf => r_ior C d (kk h hm hf)
theorem m_ixor (C : cxOk G own cc rm nL x) {a b : Int32} (d : dn cc pc (.ixor) 1 nx)  (kk : VM G x q h0 S nx lv (.int (a ^^^ b) :: st)) : VM G x q h0 S pc lv (.int b :: .int a :: st) := fun h hm hf => r_ixor C d (kk h hm hf)
theorem m_ishl (C : cxOk G own cc rm nL x) {a b : Int32} (d : dn cc pc (.ishl) 1 nx)  (kk : VM G x q h0 S nx lv (.int (a <<< (b &&& 31)) :: st)) : VM G x q h0 S pc lv (.int b :: .int a :: st) := fun h hm hf => r_ishl C d (kk h hm hf)
theorem m_ishr (C : cxOk G own cc rm nL x) {a b : Int32} (d : dn cc pc (.ishr) 1 nx)  (kk : VM G x q h0 S nx lv (.int (a >>> (b &&& 31)) :: st)) : VM G x q h0 S pc lv (.int b :: .int a :: st) := fun h hm hf => r_ishr C d (kk h hm hf)
theorem m_iushr (C : cxOk G own cc rm nL x) {a b : Int32} (d : dn cc pc (.iushr) 1 nx)  (kk : VM G x q h0 S nx lv (.int (a.toUInt32 >>> (b.toUInt32 &&& Int32.toUInt32 31)).toInt32 :: st)) : VM G x q h0 S pc lv (.int b :: .int a :: st) := fun h hm hf => r_iushr C d (kk h hm hf)
theorem m_idiv (C : cxOk G own cc rm nL x) {a b : Int32} (d : dn cc pc (.idiv) 1 nx) (hb : ¬ b = 0) (kk : VM G x q h0 S nx lv (.int (a / b) :: st)) : VM G x q h0 S pc lv (.int b :: .int a :: st) := fun h hm hf => r_idiv C d hb (kk h hm hf)
theorem m_irem (C : cxOk G own cc rm nL x) {a b : Int32} (d : dn cc pc (.irem) 1 nx) (hb : ¬ b = 0) (kk : VM G x q h0 S nx lv (.int (a - a / b * b) :: st)) : VM G x q h0 S pc lv (.int b :: .int a :: st) := fun h hm hf => r_irem C d hb (kk h hm hf)
theorem m_ineg (C : cxOk G own cc rm nL x) {a : Int32} (d : dn cc pc (.ineg) 1 nx)  (kk : VM G x q h0 S nx lv (.int (-a) :: st)) : VM G x q h0 S pc lv (.int a :: st) := fun h hm hf => r_ineg C d (kk h hm hf)
theorem m_ladd (C : cxOk G own cc rm nL x) {a b : Int64} (d : dn cc pc (.ladd) 1 nx)  (kk : VM G x q h0 S nx lv (.long (a + b) :: st)) : VM G x q h0 S pc lv (.long b :: .long a :: st) := fun h hm hf => r_ladd C d (kk h hm hf)
theorem m_land (C : cxOk G own cc rm nL x) {a b : Int64} (d : dn cc pc (.land) 1 nx)  (kk : VM G x q h0 S nx lv (.long (a &&& b) :: st)) : VM G x q h0 S pc lv (.long b :: .long a :: st) := fun h hm hf => r_land C d (kk h hm hf)
theorem m_lor (C : cxOk G own cc rm nL x) {a b : Int64} (d : dn cc pc (.lor) 1 nx)  (kk : VM G x q h0 S nx lv (.long (a ||| b) :: st)) : VM G x q h0 S pc lv (.long b :: .long a :: st) := fun h hm hf => r_lor C d (kk h hm hf)
theorem m_lxor (C : cxOk G own cc rm nL x) {a b : Int64} (d : dn cc pc (.lxor) 1 nx)  (kk : VM G x q h0 S nx lv (.long (a ^^^ b) :: st)) : VM G x q h0 S pc lv (.long b :: .long a :: st) := fun h hm hf => r_lxor C d (kk h hm hf)
theorem m_lushr (C : cxOk G own cc rm nL x) {a : Int64} {b : Int32} (d : dn cc pc (.lushr) 1 nx)  (kk : VM G x q h0 S nx lv (.long (a.toUInt64 >>> (b.toInt64.toUInt64 &&& Int64.toUInt64 63)).toInt64 :: st)) : VM G x q h0 S pc lv (.int b :: .long a :: st) := fun h hm hf => r_lushr C d (kk h hm hf)
theorem m_lshl (C : cxOk G own cc rm nL x) {a : Int64} {b : Int32} (d : dn cc pc (.lshl) 1 nx)  (kk : VM G x q h0 S nx lv (.long (a <<< (b.toInt64 &&& 63)) :: st)) : VM G x q h0 S pc lv (.int b :: .long a :: st) := fun h hm hf => r_lshl C d (kk h hm hf)
theorem m_lshr (C : cxOk G own cc rm nL x) {a : Int64} {b : Int32} (d : dn cc pc (.lshr) 1 nx)  (kk : VM G x q h0 S nx lv (.long (a >>> (b.toInt64 &&& 63)) :: st)) : VM G x q h0 S pc lv (.int b :: .long a :: st) := fun h hm hf => r_lshr C d (kk h hm hf)
theorem m_lcmp (C : cxOk G own cc rm nL x) {a b : Int64} (d : dn cc pc (.lcmp) 1 nx)  (kk : VM G x q h0 S nx lv (.int (lg_cmp a b) :: st)) : VM G x q h0 S pc lv (.long b :: .long a :: st) := fun h hm hf => r_lcmp C d (kk h hm hf)
theorem m_i2l (C : cxOk G own cc rm nL x) {a : Int32} (d : dn cc pc (.i2l) 1 nx)  (kk : VM G x q h0 S nx lv (.long a.toInt64 :: st)) : VM G x q h0 S pc lv (.int a :: st) := fun h hm hf => r_i2l C d (kk h hm hf)
theorem m_l2i (C : cxOk G own cc rm nL x) {a : Int64} (d : dn cc pc (.l2i) 1 nx)  (kk : VM G x q h0 S nx lv (.int a.toInt32 :: st)) : VM G x q h0 S pc lv (.long a :: st) := fun h hm hf => r_l2i C d (kk h hm hf)
theorem m_dup (C : cxOk G own cc rm nL x) {v : Value} (d : dn cc pc (.dup) 1 nx) (hv : v.category = 1) (kk : VM G x q h0 S nx lv (v :: v :: st)) : VM G x q h0 S pc lv (v :: st) := fun h hm hf => r_dup C d hv (kk h hm hf)
theorem m_pop (C : cxOk G own cc rm nL x) {v : Value} (d : dn cc pc (.pop) 1 nx) (hv : v.category = 1) (kk : VM G x q h0 S nx lv (st)) : VM G x q h0 S pc lv (v :: st) := fun h hm hf => r_pop C d hv (kk h hm hf)
theorem m_dup2 (C : cxOk G own cc rm nL x) {v w : Value} (d : dn cc pc (.dup2) 1 nx) (hv : v.category = 1) (hw : w.category = 1) (kk : VM G x q h0 S nx lv (v :: w :: v :: w :: st)) : VM G x q h0 S pc lv (v :: w :: st) := fun h hm hf => r_dup2 C d hv hw (kk h hm hf)
theorem m_if_eq (C : cxOk G own cc rm nL x) {off : Int} {tgt : Nat} {a : Int32} (d : dn cc pc (.ifCond .eq off) 3 nx) (ht : (pc : Int) + off = (tgt : Int)) (kt : a = 0 → VM G x q h0 S tgt lv (st)) (kf : ¬ (a = 0) → VM G x q h0 S nx lv (st)) : VM G x q h0 S pc lv (.int a :: st) := fun h hm hf => r_if_eq C d ht (fun c => kt c h hm hf) (fun c => kf c h hm hf)
theorem m_if_ne (C : cxOk G own cc rm nL x) {off : Int} {tgt : Nat} {a : Int32} (d : dn cc pc (.ifCond .ne off) 3 nx) (ht : (pc : Int) + off = (tgt : Int)) (kt : ¬ a = 0 → VM G x q h0 S tgt lv (st)) (kf : ¬ (¬ a = 0) → VM G x q h0 S nx lv (st)) : VM G x q h0 S pc lv (.int a :: st) := fun h hm hf => r_if_ne C d ht (fun c => kt c h hm hf) (fun c => kf c h hm hf)
theorem m_if_lt (C : cxOk G own cc rm nL x) {off : Int} {tgt : Nat} {a : Int32} (d : dn cc pc (.ifCond .lt off) 3 nx) (ht : (pc : Int) + off = (tgt : Int)) (kt : a < 0 → VM G x q h0 S tgt lv (st)) (kf : ¬ (a < 0) → VM G x q h0 S nx lv (st)) : VM G x q h0 S pc lv (.int a :: st) := fun h hm hf => r_if_lt C d ht (fun c => kt c h hm hf) (fun c => kf c h hm hf)
theorem m_if_ge (C : cxOk G own cc rm nL x) {off : Int} {tgt : Nat} {a : Int32} (d : dn cc pc (.ifCond .ge off) 3 nx) (ht : (pc : Int) + off = (tgt : Int)) (kt : 0 ≤ a → VM G x q h0 S tgt lv (st)) (kf : ¬ (0 ≤ a) → VM G x q h0 S nx lv (st)) : VM G x q h0 S pc lv (.int a :: st) := fun h hm hf => r_if_ge C d ht (fun c => kt c h hm hf) (fun c => kf c h hm hf)
theorem m_if_gt (C : cxOk G own cc rm nL x) {off : Int} {tgt : Nat} {a : Int32} (d : dn cc pc (.ifCond .gt off) 3 nx) (ht : (pc : Int) + off = (tgt : Int)) (kt : 0 < a → VM G x q h0 S tgt lv (st)) (kf : ¬ (0 < a) → VM G x q h0 S nx lv (st)) : VM G x q h0 S pc lv (.int a :: st) := fun h hm hf => r_if_gt C d ht (fun c => kt c h hm hf) (fun c => kf c h hm hf)
theorem m_if_le (C : cxOk G own cc rm nL x) {off : Int} {tgt : Nat} {a : Int32} (d : dn cc pc (.ifCond .le off) 3 nx) (ht : (pc : Int) + off = (tgt : Int)) (kt : a ≤ 0 → VM G x q h0 S tgt lv (st)) (kf : ¬ (a ≤ 0) → VM G x q h0 S nx lv (st)) : VM G x q h0 S pc lv (.int a :: st) := fun h hm hf => r_if_le C d ht (fun c => kt c h hm hf) (fun c => kf c h hm hf)
theorem m_icmp_eq (C : cxOk G own cc rm nL x) {off : Int} {tgt : Nat} {a b : Int32} (d : dn cc pc (.if_icmp .eq off) 3 nx) (ht : (pc : Int) + off = (tgt : Int)) (kt : a = b → VM G x q h0 S tgt lv (st)) (kf : ¬ (a = b) → VM G x q h0 S nx lv (st)) : VM G x q h0 S pc lv (.int b :: .int a :: st) := fun h hm hf => r_icmp_eq C d ht (fun c => kt c h hm hf) (fun c => kf c h hm hf)
theorem m_icmp_ne (C : cxOk G own cc rm nL x) {off : Int} {tgt : Nat} {a b : Int32} (d : dn cc pc (.if_icmp .ne off) 3 nx) (ht : (pc : Int) + off = (tgt : Int)) (kt : ¬ a = b → VM G x q h0 S tgt lv (st)) (kf : ¬ (¬ a = b) → VM G x q h0 S nx lv (st)) : VM G x q h0 S pc lv (.int b :: .int a :: st) := fun h hm hf => r_icmp_ne C d ht (fun c => kt c h hm hf) (fun c => kf c h hm hf)
theorem m_icmp_lt (C : cxOk G own cc rm nL x) {off : Int} {tgt : Nat} {a b : Int32} (d : dn cc pc (.if_icmp .lt off) 3 nx) (ht : (pc : Int) + off = (tgt : Int)) (kt : a < b → VM G x q h0 S tgt lv (st)) (kf : ¬ (a < b) → VM G x q h0 S nx lv (st)) : VM G x q h0 S pc lv (.int b :: .int a :: st) := fun h hm hf => r_icmp_lt C d ht (fun c => kt c h hm hf) (fun c => kf c h hm hf)
theorem m_icmp_ge (C : cxOk G own cc rm nL x) {off : Int} {tgt : Nat} {a b : Int32} (d : dn cc pc (.if_icmp .ge off) 3 nx) (ht : (pc : Int) + off = (tgt : Int)) (kt : b ≤ a → VM G x q h0 S tgt lv (st)) (kf : ¬ (b ≤ a) → VM G x q h0 S nx lv (st)) : VM G x q h0 S pc lv (.int b :: .int a :: st) := fun h hm hf => r_icmp_ge C d ht (fun c => kt c h hm hf) (fun c => kf c h hm hf)
theorem m_icmp_gt (C : cxOk G own cc rm nL x) {off : Int} {tgt : Nat} {a b : Int32} (d : dn cc pc (.if_icmp .gt off) 3 nx) (ht : (pc : Int) + off = (tgt : Int)) (kt : b < a → VM G x q h0 S tgt lv (st)) (kf : ¬ (b < a) → VM G x q h0 S nx lv (st)) : VM G x q h0 S pc lv (.int b :: .int a :: st) := fun h hm hf => r_icmp_gt C d ht (fun c => kt c h hm hf) (fun c => kf c h hm hf)
theorem m_icmp_le (C : cxOk G own cc rm nL x) {off : Int} {tgt : Nat} {a b : Int32} (d : dn cc pc (.if_icmp .le off) 3 nx) (ht : (pc : Int) + off = (tgt : Int)) (kt : a ≤ b → VM G x q h0 S tgt lv (st)) (kf : ¬ (a ≤ b) → VM G x q h0 S nx lv (st)) : VM G x q h0 S pc lv (.int b :: .int a :: st) := fun h hm hf => r_icmp_le C d ht (fun c => kt c h hm hf) (fun c => kf c h hm hf)
theorem m_goto (C : cxOk G own cc rm nL x) {off : Int} {tgt : Nat} (d : dn cc pc (.goto off) 3 nx) (ht : (pc : Int) + off = (tgt : Int)) (kk : VM G x q h0 S tgt lv (st)) : VM G x q h0 S pc lv (st) := fun h hm hf => r_goto C d ht (kk h hm hf)
theorem mn_iadd (C : cxOk G own cc rm nL x) {a b : Nat} (d : dn cc pc .iadd 1 nx) (kk : VM G x q h0 S nx lv (.int (nI (a + b)) :: st)) : VM G x q h0 S pc lv (.int (nI b) :: .int (nI a) :: st) := fun h hm hf => rn_iadd C d (kk h hm hf)
theorem mn_isub (C : cxOk G own cc rm nL x) {a b : Nat} (d : dn cc pc .isub 1 nx) (hle : b ≤ a) (kk : VM G x q h0 S nx lv (.int (nI (a - b)) :: st)) : VM G x q h0 S pc lv (.int (nI b) :: .int (nI a) :: st) := fun h hm hf => rn_isub C d hle (kk h hm hf)
theorem mn_imul (C : cxOk G own cc rm nL x) {a b : Nat} (d : dn cc pc .imul 1 nx) (kk : VM G x q h0 S nx lv (.int (nI (a * b)) :: st)) : VM G x q h0 S pc lv (.int (nI b) :: .int (nI a) :: st) := fun h hm hf => rn_imul C d (kk h hm hf)
theorem mn_idiv (C : cxOk G own cc rm nL x) {a b : Nat} (d : dn cc pc .idiv 1 nx) (ha : a < 2147483648) (hz : 0 < b) (hb : b < 2147483648) (kk : VM G x q h0 S nx lv (.int (nI (a / b)) :: st)) : VM G x q h0 S pc lv (.int (nI b) :: .int (nI a) :: st) := fun h hm hf => rn_idiv C d ha hz hb (kk h hm hf)
theorem mn_irem (C : cxOk G own cc rm nL x) {a b : Nat} (d : dn cc pc .irem 1 nx) (ha : a < 2147483648) (hz : 0 < b) (hb : b < 2147483648) (kk : VM G x q h0 S nx lv (.int (nI (a % b)) :: st)) : VM G x q h0 S pc lv (.int (nI b) :: .int (nI a) :: st) := fun h hm hf => rn_irem C d ha hz hb (kk h hm hf)
theorem mn_iand (C : cxOk G own cc rm nL x) {a b : Nat} (d : dn cc pc .iand 1 nx) (kk : VM G x q h0 S nx lv (.int (nI (a &&& b)) :: st)) : VM G x q h0 S pc lv (.int (nI b) :: .int (nI a) :: st) := fun h hm hf => rn_iand C d (kk h hm hf)
theorem mn_ior (C : cxOk G own cc rm nL x) {a b : Nat} (d : dn cc pc .ior 1 nx) (kk : VM G x q h0 S nx lv (.int (nI (a ||| b)) :: st)) : VM G x q h0 S pc lv (.int (nI b) :: .int (nI a) :: st) := fun h hm hf => rn_ior C d (kk h hm hf)
theorem mn_ishl (C : cxOk G own cc rm nL x) {a b : Nat} (d : dn cc pc .ishl 1 nx) (hb : b < 32) (kk : VM G x q h0 S nx lv (.int (nI (a * 2 ^ b)) :: st)) : VM G x q h0 S pc lv (.int (nI b) :: .int (nI a) :: st) := fun h hm hf => rn_ishl C d hb (kk h hm hf)
theorem mn_ishr (C : cxOk G own cc rm nL x) {a b : Nat} (d : dn cc pc .ishr 1 nx) (ha : a < 2147483648) (hb : b < 32) (kk : VM G x q h0 S nx lv (.int (nI (a / 2 ^ b)) :: st)) : VM G x q h0 S pc lv (.int (nI b) :: .int (nI a) :: st) := fun h hm hf => rn_ishr C d ha hb (kk h hm hf)
theorem mn_iushr (C : cxOk G own cc rm nL x) {a b : Nat} (d : dn cc pc .iushr 1 nx) (ha : a < 4294967296) (hb : b < 32) (kk : VM G x q h0 S nx lv (.int (nI (a / 2 ^ b)) :: st)) : VM G x q h0 S pc lv (.int (nI b) :: .int (nI a) :: st) := fun h hm hf => rn_iushr C d ha hb (kk h hm hf)
theorem mn_iinc (C : cxOk G own cc rm nL x) {i a b : Nat} {k : Int} {lv' : List (Nat × Value)} (d : dn cc pc (.iinc i k) 3 nx) (j : Nat) (hk : lv[j]? = some (i, .int (nI a))) (hv : nI a + Int32.ofInt k = nI b) (hn : i < nL) (hl2 : (i, Value.int (nI b)) :: lv.filter (fun q => !(q.1 == i) && !(q.1 + 1 == i && q.2.category == 2)) = lv') (kk : VM G x q h0 S nx lv' (st)) : VM G x q h0 S pc lv (st) := fun h hm hf => rn_iinc C d j hk hv hn hl2 (kk h hm hf)
theorem mn_icmp_eq (C : cxOk G own cc rm nL x) {off : Int} {tgt a b : Nat} (d : dn cc pc (.if_icmp .eq off) 3 nx) (ht : (pc : Int) + off = (tgt : Int)) (ha : a < 2147483648) (hb : b < 2147483648) (kt : a = b → VM G x q h0 S tgt lv (st)) (kf : ¬ a = b → VM G x q h0 S nx lv (st)) : VM G x q h0 S pc lv (.int (nI b) :: .int (nI a) :: st) := fun h hm hf => rn_icmp_eq C d ht ha hb (fun c => kt c h hm hf) (fun c => kf c h hm hf)
theorem mn_icmp_ne (C : cxOk G own cc rm nL x) {off : Int} {tgt a b : Nat} (d : dn cc pc (.if_icmp .ne off) 3 nx) (ht : (pc : Int) + off = (tgt : Int)) (ha : a < 2147483648) (hb : b < 2147483648) (kt : ¬ a = b → VM G x q h0 S tgt lv (st)) (kf : a = b → VM G x q h0 S nx lv (st)) : VM G x q h0 S pc lv (.int (nI b) :: .int (nI a) :: st) := fun h hm hf => rn_icmp_ne C d ht ha hb (fun c => kt c h hm hf) (fun c => kf c h hm hf)
theorem mn_icmp_lt (C : cxOk G own cc rm nL x) {off : Int} {tgt a b : Nat} (d : dn cc pc (.if_icmp .lt off) 3 nx) (ht : (pc : Int) + off = (tgt : Int)) (ha : a < 2147483648) (hb : b < 2147483648) (kt : a < b → VM G x q h0 S tgt lv (st)) (kf : b ≤ a → VM G x q h0 S nx lv (st)) : VM G x q h0 S pc lv (.int (nI b) :: .int (nI a) :: st) := fun h hm hf => rn_icmp_lt C d ht ha hb (fun c => kt c h hm hf) (fun c => kf c h hm hf)
theorem mn_icmp_ge (C : cxOk G own cc rm nL x) {off : Int} {tgt a b : Nat} (d : dn cc pc (.if_icmp .ge off) 3 nx) (ht : (pc : Int) + off = (tgt : Int)) (ha : a < 2147483648) (hb : b < 2147483648) (kt : b ≤ a → VM G x q h0 S tgt lv (st)) (kf : a < b → VM G x q h0 S nx lv (st)) : VM G x q h0 S pc lv (.int (nI b) :: .int (nI a) :: st) := fun h hm hf => rn_icmp_ge C d ht ha hb (fun c => kt c h hm hf) (fun c => kf c h hm hf)
theorem mn_icmp_gt (C : cxOk G own cc rm nL x) {off : Int} {tgt a b : Nat} (d : dn cc pc (.if_icmp .gt off) 3 nx) (ht : (pc : Int) + off = (tgt : Int)) (ha : a < 2147483648) (hb : b < 2147483648) (kt : b < a → VM G x q h0 S tgt lv (st)) (kf : a ≤ b → VM G x q h0 S nx lv (st)) : VM G x q h0 S pc lv (.int (nI b) :: .int (nI a) :: st) := fun h hm hf => rn_icmp_gt C d ht ha hb (fun c => kt c h hm hf) (fun c => kf c h hm hf)
theorem mn_icmp_le (C : cxOk G own cc rm nL x) {off : Int} {tgt a b : Nat} (d : dn cc pc (.if_icmp .le off) 3 nx) (ht : (pc : Int) + off = (tgt : Int)) (ha : a < 2147483648) (hb : b < 2147483648) (kt : a ≤ b → VM G x q h0 S tgt lv (st)) (kf : b < a → VM G x q h0 S nx lv (st)) : VM G x q h0 S pc lv (.int (nI b) :: .int (nI a) :: st) := fun h hm hf => rn_icmp_le C d ht ha hb (fun c => kt c h hm hf) (fun c => kf c h hm hf)
theorem mn_if_eq (C : cxOk G own cc rm nL x) {off : Int} {tgt a : Nat} (d : dn cc pc (.ifCond .eq off) 3 nx) (ht : (pc : Int) + off = (tgt : Int)) (ha : a < 2147483648) (kt : a = 0 → VM G x q h0 S tgt lv (st)) (kf : 0 < a → VM G x q h0 S nx lv (st)) : VM G x q h0 S pc lv (.int (nI a) :: st) := fun h hm hf => rn_if_eq C d ht ha (fun c => kt c h hm hf) (fun c => kf c h hm hf)
theorem mn_if_ne (C : cxOk G own cc rm nL x) {off : Int} {tgt a : Nat} (d : dn cc pc (.ifCond .ne off) 3 nx) (ht : (pc : Int) + off = (tgt : Int)) (ha : a < 2147483648) (kt : 0 < a → VM G x q h0 S tgt lv (st)) (kf : a = 0 → VM G x q h0 S nx lv (st)) : VM G x q h0 S pc lv (.int (nI a) :: st) := fun h hm hf => rn_if_ne C d ht ha (fun c => kt c h hm hf) (fun c => kf c h hm hf)
theorem mn_if_lt (C : cxOk G own cc rm nL x) {off : Int} {tgt a : Nat} (d : dn cc pc (.ifCond .lt off) 3 nx) (ht : (pc : Int) + off = (tgt : Int)) (ha : a < 2147483648) (kt : False → VM G x q h0 S tgt lv (st)) (kf : True → VM G x q h0 S nx lv (st)) : VM G x q h0 S pc lv (.int (nI a) :: st) := fun h hm hf => rn_if_lt C d ht ha (fun c => kt c h hm hf) (fun c => kf c h hm hf)
theorem mn_if_ge (C : cxOk G own cc rm nL x) {off : Int} {tgt a : Nat} (d : dn cc pc (.ifCond .ge off) 3 nx) (ht : (pc : Int) + off = (tgt : Int)) (ha : a < 2147483648) (kt : True → VM G x q h0 S tgt lv (st)) (kf : False → VM G x q h0 S nx lv (st)) : VM G x q h0 S pc lv (.int (nI a) :: st) := fun h hm hf => rn_if_ge C d ht ha (fun c => kt c h hm hf) (fun c => kf c h hm hf)
theorem mn_if_gt (C : cxOk G own cc rm nL x) {off : Int} {tgt a : Nat} (d : dn cc pc (.ifCond .gt off) 3 nx) (ht : (pc : Int) + off = (tgt : Int)) (ha : a < 2147483648) (kt : 0 < a → VM G x q h0 S tgt lv (st)) (kf : a = 0 → VM G x q h0 S nx lv (st)) : VM G x q h0 S pc lv (.int (nI a) :: st) := fun h hm hf => rn_if_gt C d ht ha (fun c => kt c h hm hf) (fun c => kf c h hm hf)
theorem mn_if_le (C : cxOk G own cc rm nL x) {off : Int} {tgt a : Nat} (d : dn cc pc (.ifCond .le off) 3 nx) (ht : (pc : Int) + off = (tgt : Int)) (ha : a < 2147483648) (kt : a = 0 → VM G x q h0 S tgt lv (st)) (kf : 0 < a → VM G x q h0 S nx lv (st)) : VM G x q h0 S pc lv (.int (nI a) :: st) := fun h hm hf => rn_if_le C d ht ha (fun c => kt c h hm hf) (fun c => kf c h hm hf)
theorem mb_if_eq (C : cxOk G own cc rm nL x) {off : Int} {tgt : Nat} {b : Bool} (d : dn cc pc (.ifCond .eq off) 3 nx) (ht : (pc : Int) + off = (tgt : Int)) (kt : b = false → VM G x q h0 S tgt lv (st)) (kf : b = true → VM G x q h0 S nx lv (st)) : VM G x q h0 S pc lv (.int (bI b) :: st) := fun h hm hf => rb_if_eq C d ht (fun c => kt c h hm hf) (fun c => kf c h hm hf)
theorem mb_if_ne (C : cxOk G own cc rm nL x) {off : Int} {tgt : Nat} {b : Bool} (d : dn cc pc (.ifCond .ne off) 3 nx) (ht : (pc : Int) + off = (tgt : Int)) (kt : b = true → VM G x q h0 S tgt lv (st)) (kf : b = false → VM G x q h0 S nx lv (st)) : VM G x q h0 S pc lv (.int (bI b) :: st) := fun h hm hf => rb_if_ne C d ht (fun c => kt c h hm hf) (fun c => kf c h hm hf)
theorem mn_i2l (C : cxOk G own cc rm nL x) {a : Nat} (d : dn cc pc .i2l 1 nx) (ha : a < 2147483648) (kk : VM G x q h0 S nx lv (.long (lN a) :: st)) : VM G x q h0 S pc lv (.int (nI a) :: st) := fun h hm hf => rn_i2l C d ha (kk h hm hf)
theorem mn_l2i (C : cxOk G own cc rm nL x) {a : Nat} (d : dn cc pc .l2i 1 nx) (kk : VM G x q h0 S nx lv (.int (nI a) :: st)) : VM G x q h0 S pc lv (.long (lN a) :: st) := fun h hm hf => rn_l2i C d (kk h hm hf)
theorem mn_lshl (C : cxOk G own cc rm nL x) {a b : Nat} (d : dn cc pc .lshl 1 nx) (hb : b < 64) (kk : VM G x q h0 S nx lv (.long (lN (a * 2 ^ b)) :: st)) : VM G x q h0 S pc lv (.int (nI b) :: .long (lN a) :: st) := fun h hm hf => rn_lshl C d hb (kk h hm hf)
theorem mn_lshr (C : cxOk G own cc rm nL x) {a b : Nat} (d : dn cc pc .lshr 1 nx) (ha : a < 9223372036854775808) (hb : b < 64) (kk : VM G x q h0 S nx lv (.long (lN (a / 2 ^ b)) :: st)) : VM G x q h0 S pc lv (.int (nI b) :: .long (lN a) :: st) := fun h hm hf => rn_lshr C d ha hb (kk h hm hf)
theorem mn_lushr (C : cxOk G own cc rm nL x) {a b : Nat} (d : dn cc pc .lushr 1 nx) (ha : a < 18446744073709551616) (hb : b < 64) (kk : VM G x q h0 S nx lv (.long (lN (a / 2 ^ b)) :: st)) : VM G x q h0 S pc lv (.int (nI b) :: .long (lN a) :: st) := fun h hm hf => rn_lushr C d ha hb (kk h hm hf)
theorem mn_land (C : cxOk G own cc rm nL x) {a b : Nat} (d : dn cc pc .land 1 nx) (kk : VM G x q h0 S nx lv (.long (lN (a &&& b)) :: st)) : VM G x q h0 S pc lv (.long (lN b) :: .long (lN a) :: st) := fun h hm hf => rn_land C d (kk h hm hf)
theorem mn_lor (C : cxOk G own cc rm nL x) {a b : Nat} (d : dn cc pc .lor 1 nx) (kk : VM G x q h0 S nx lv (.long (lN (a ||| b)) :: st)) : VM G x q h0 S pc lv (.long (lN b) :: .long (lN a) :: st) := fun h hm hf => rn_lor C d (kk h hm hf)
theorem mn_lcmp (C : cxOk G own cc rm nL x) {a b : Nat} (d : dn cc pc .lcmp 1 nx) (ha : a < 9223372036854775808) (hb : b < 9223372036854775808) (kk : VM G x q h0 S nx lv (.int (lg_cmp (lN a) (lN b)) :: st)) : VM G x q h0 S pc lv (.long (lN b) :: .long (lN a) :: st) := fun h hm hf => rn_lcmp C d ha hb (kk h hm hf)
theorem m_eq {S' : mS} (e : S = S') (kk : VM G x q h0 S' pc lv st) : VM G x q h0 S pc lv st := e ▸ kk
theorem m_lv {lv' : List (Nat × Value)} (ks : List Nat) (hl2 : lv_pick lv ks = lv') (kk : VM G x q h0 S pc lv' st) : VM G x q h0 S pc lv st := fun h hm hf => r_lv ks hl2 (kk h hm hf)
theorem m_get (C : cxOk G own cc rm nL x) {i k : Nat} {v : Value} (d : dn cc pc (.getfield i) 3 nx) (F : fdOk own i 6 k) (hv : (mfs q S)[k]? = some v) (kk : VM G x q h0 S nx lv (v :: st)) : VM G x q h0 S pc lv (.ref (q 0) :: st) := fun h hm hf => r_get C d F hm.1 hv (kk h hm hf)
theorem m_putK (C : cxOk G own cc rm nL x) {i k v : Nat} (d : dn cc pc (.putfield i) 3 nx) (F : pfOk own i 6 k .int false) (hk : k < 23) (hs : ∀ q S, (mfs q S).set k (.int (nI v)) = mfs q (uK S k v)) (kk : VM G x q h0 (uK S k v) nx lv st) : VM G x q h0 S pc lv (.int (nI v) :: .ref (q 0) :: st) := fun h hm hf => r_put C d F hm.1 rfl rfl (by exact hk) (hs q S) (kk _ ⟨hup_s, fun j hj hj0 => by
    rw [hup_n (fun e => by have := hm.2.2 j 0 hj (by omega) (Or.inr hj0) (Or.inl rfl) e; subst this; exact hj0 rfl), hm.2.1 j hj hj0]; rfl, hm.2.2⟩ (mfr_put (k := 0) (by omega) _ hf))
theorem m_ald (C : cxOk G own cc rm nL x) {k i : Nat} (d : dn cc pc .iaload 1 nx) (hk : k ≤ 22) (hkk : mkind k = 1) (hi : i < mlen k) (hn : mlen k < 2147483648) (kk : VM G x q h0 S nx lv (.int (nI (mN S k i)) :: st)) : VM G x q h0 S pc lv (.int (nI i) :: .ref (q k) :: st) := fun h hm hf => r_iald (f := fun i => nI (mN S k i)) C d (by rw [hm.2.1 k hk (by rw [hkk]; decide)]; simp only [mcell, hkk]) hi hn (kk h hm hf)
theorem m_aldI (C : cxOk G own cc rm nL x) {k i : Nat} (d : dn cc pc .iaload 1 nx) (hk : k ≤ 22) (hkk : mkind k = 4) (hi : i < mlen k) (hn : mlen k < 2147483648) (kk : VM G x q h0 S nx lv (.int (mI S k i) :: st)) : VM G x q h0 S pc lv (.int (nI i) :: .ref (q k) :: st) := fun h hm hf => r_iald (f := fun i => mI S k i) C d (by rw [hm.2.1 k hk (by rw [hkk]; decide)]; simp only [mcell, hkk]) hi hn (kk h hm hf)
theorem m_lld (C : cxOk G own cc rm nL x) {k i : Nat} (d : dn cc pc .laload 1 nx) (hk : k ≤ 22) (hkk : mkind k = 3) (hi : i < mlen k) (hn : mlen k < 2147483648) (kk : VM G x q h0 S nx lv (.long (lN (mN S k i)) :: st)) : VM G x q h0 S pc lv (.int (nI i) :: .ref (q k) :: st) := fun h hm hf => r_lald (f := fun i => lN (mN S k i)) C d (by rw [hm.2.1 k hk (by rw [hkk]; decide)]; simp only [mcell, hkk]) hi hn (kk h hm hf)
theorem mc_N {S : mS} {k i v : Nat} (hkk : mkind k = 1) : mcell G (uN S k i v) k = aI G (mlen k) (upd (fun i => nI (mN S k i)) i (nI v)) := by
  simp only [mcell, hkk]
  congr 3
  funext b
  rw [mN_uN]
  by_cases e : b = i <;> simp [upd, e]
theorem mc_J {S : mS} {k i v : Nat} (hkk : mkind k = 3) : mcell G (uN S k i v) k = aJ G (mlen k) (vp_updL (fun i => lN (mN S k i)) i (lN v)) := by
  simp only [mcell, hkk]
  congr 4
  funext b
  rw [mN_uN]
  by_cases e : b = i <;> simp [vp_updL, e]
theorem mc_B {S : mS} {k i : Nat} {v : Bool} (hkk : mkind k = 2) : mcell G (uB S k i v) k = aZ G (mlen k) (upd (fun i => bI (mB S k i)) i (bI v)) := by
  simp only [mcell, hkk]
  congr 3
  funext b
  rw [mB_uB]
  by_cases e : b = i <;> simp [upd, e]
theorem mc_I {S : mS} {k i : Nat} {v : Int32} (hkk : mkind k = 4) : mcell G (uI S k i v) k = aI G (mlen k) (upd (fun i => mI S k i) i v) := by
  simp only [mcell, hkk]
  congr 3
  funext b
  rw [mI_uI]
  by_cases e : b = i <;> simp [upd, e]
theorem mc_oN {S : mS} {k i v j : Nat} (h : j ≠ k) : mcell G (uN S k i v) j = mcell G S j := by
  unfold mcell
  simp only [mN_uN, mB_uN, mI_uN, h, false_and, if_false]
theorem mc_oB {S : mS} {k i j : Nat} {v : Bool} (h : j ≠ k) : mcell G (uB S k i v) j = mcell G S j := by
  unfold mcell
  simp only [mN_uB, mB_uB, mI_uB, h, false_and, if_false]
theorem mc_oI {S : mS} {k i j : Nat} {v : Int32} (h : j ≠ k) : mcell G (uI S k i v) j = mcell G S j := by
  unfold mcell
  simp only [mN_uI, mB_uI, mI_uI, h, false_and, if_false]
theorem m_ast (C : cxOk G own cc rm nL x) {k i v : Nat} (d : dn cc pc .iastore 1 nx) (hk : k ≤ 22) (hkk : mkind k = 1) (hi : i < mlen k) (hn : mlen k < 2147483648) (kk : VM G x q h0 (uN S k i v) nx lv st) : VM G x q h0 S pc lv (.int (nI v) :: .int (nI i) :: .ref (q k) :: st) := fun h hm hf => r_iast (f := fun i => nI (mN S k i)) C d (by rw [hm.2.1 k hk (by rw [hkk]; decide)]; simp only [mcell, hkk]) hi hn (by rw [← mc_N hkk]; exact kk _ (mo_put hm hk (by rw [hkk]; decide) rfl (fun j _ _ e => mc_oN e)) (mfr_put hk _ hf))
theorem m_lst (C : cxOk G own cc rm nL x) {k i v : Nat} (d : dn cc pc .lastore 1 nx) (hk : k ≤ 22) (hkk : mkind k = 3) (hi : i < mlen k) (hn : mlen k < 2147483648) (kk : VM G x q h0 (uN S k i v) nx lv st) : VM G x q h0 S pc lv (.long (lN v) :: .int (nI i) :: .ref (q k) :: st) := fun h hm hf => r_last (f := fun i => lN (mN S k i)) C d (by rw [hm.2.1 k hk (by rw [hkk]; decide)]; simp only [mcell, hkk]) hi hn (by rw [← mc_J hkk]; exact kk _ (mo_put hm hk (by rw [hkk]; decide) rfl (fun j _ _ e => mc_oN e)) (mfr_put hk _ hf))
theorem m_astI (C : cxOk G own cc rm nL x) {k i : Nat} {v : Int32} (d : dn cc pc .iastore 1 nx) (hk : k ≤ 22) (hkk : mkind k = 4) (hi : i < mlen k) (hn : mlen k < 2147483648) (kk : VM G x q h0 (uI S k i v) nx lv st) : VM G x q h0 S pc lv (.int v :: .int (nI i) :: .ref (q k) :: st) := fun h hm hf => r_iast (f := fun i => mI S k i) C d (by rw [hm.2.1 k hk (by rw [hkk]; decide)]; simp only [mcell, hkk]) hi hn (by rw [← mc_I hkk]; exact kk _ (mo_put hm hk (by rw [hkk]; decide) rfl (fun j _ _ e => mc_oI e)) (mfr_put hk _ hf))
/-- a method of the reference, by its state: what it answers, what the state is then -/
def mC (y : MethodName) (b : ByteArray) (nL : Nat) (ret : Option FieldType) (rm : Room) (av : List Value) (S : mS) (post : Option Value → mS → Prop) : Prop :=
  ∀ (l : Launch) (G : eG) (q : Nat → Nat) (h : hp), mo G q S h → MC l G y b nL ret rm (.ref (q 0) :: av) h (fun v h' => ∃ T, post v T ∧ mo G q T h' ∧ mfr q h h')
/-- a static method of numbers -/
def sC (y : MethodName) (b : ByteArray) (nL : Nat) (ret : Option FieldType) (rm : Room) (av : List Value) (r : Option Value) : Prop :=
  ∀ (l : Launch) (G : eG) (h : hp), MC l G y b nL ret rm av h (fun v h' => v = r ∧ h' = h)
/-- where a method of the reference ends -/
def mEnd (G : eG) (x : CX) (q : Nat → Nat) (h0 : hp) (post : Option Value → mS → Prop) : Prop := cxR G (fun v h' => ∃ T, post v T ∧ mo G q T h' ∧ mfr q h0 h') 0 0 x
theorem mC.of {y : MethodName} {b : ByteArray} {nL fr lo : Nat} {ret : Option FieldType} {av : List Value} {S : mS} {post : Option Value → mS → Prop} (hy : plainName y.cls = true) (hlen : (lg_sl (.ref 0 :: av)).length ≤ nL)
    (body : ∀ (G : eG) (x : CX) (q : Nat → Nat) (h0 : hp), cxOk G y.cls b { frames := fr, cells := 0, slots := 0, locals := lo } nL x → mEnd G x q h0 post → cxT ret x → VM G x q h0 S 0 ((0, .ref (q 0)) :: lv_args 1 av) []) : mC y b nL ret { frames := fr, cells := 0, slots := 0, locals := lo } av S post :=
  fun l G q h hm => MC.of hy hlen (fun x C A T2 _ => body G x q h C A T2 h hm mfr_rf)
theorem sC.of {y : MethodName} {b : ByteArray} {nL fr lo : Nat} {ret : Option FieldType} {av : List Value} {r : Option Value} (hy : plainName y.cls = true) (hlen : (lg_sl av).length ≤ nL)
    (body : ∀ (G : eG) (x : CX) (h : hp), cxOk G y.cls b { frames := fr, cells := 0, slots := 0, locals := lo } nL x → cxR G (fun v h' => v = r ∧ h' = h) 0 0 x → cxT ret x → VV G x 0 0 h 0 (lv_args 0 av) []) : sC y b nL ret { frames := fr, cells := 0, slots := 0, locals := lo } av r :=
  fun l G h => MC.of hy hlen (fun x C A T2 _ => body G x h C A T2)
theorem m_iret (C : cxOk G own cc rm nL x) {post : Option Value → mS → Prop} {v : Int32} {ty : FieldType} (A : mEnd G x q h0 post) (T2 : cxT (some ty) x) (d : dn cc pc .ireturn 1 nx) (hn : narrow ty (.int v) = .int v) (e : post (some (.int v)) S) : VM G x q h0 S pc lv [.int v] := fun h hm hf => r_iret C A T2 d hn (Nat.le_refl 0) (Nat.le_refl 0) ⟨S, e, hm, hf⟩
theorem m_vret (C : cxOk G own cc rm nL x) {post : Option Value → mS → Prop} (A : mEnd G x q h0 post) (T2 : cxT none x) (d : dn cc pc .return_ 1 nx) (e : post none S) : VM G x q h0 S pc lv [] := fun h hm hf => r_vret C A T2 d (Nat.le_refl 0) (Nat.le_refl 0) ⟨S, e, hm, hf⟩
theorem m_st {st' : List Value} (e : st = st') (kk : VM G x q h0 S pc lv st') : VM G x q h0 S pc lv st := e ▸ kk
theorem m_lve {lv' : List (Nat × Value)} (e : lv = lv') (kk : VM G x q h0 S pc lv' st) : VM G x q h0 S pc lv st := e ▸ kk
variable {i n fr lo maxL : Nat} {y : MethodName} {b : ByteArray} {ret : Option FieldType} {As rest : List Value} {r : Option Value} {R0 : Room}
theorem m_callS (C : cxOk G own cc R0 nL x) (d : dn cc pc (.invokestatic i) 3 nx) (F : okS own i y b maxL ret n) (M : sC y b maxL ret { frames := fr, cells := 0, slots := 0, locals := lo } As r) (hn : As.length = n) (hst : st = As.reverse ++ rest) (hcat : (rest.map fun v => v.category).sum ≤ 8) (hR : rmIn { frames := fr, cells := 0, slots := 0, locals := lo } R0 maxL 0 0)
    (kk : VM G x q h0 S nx lv (r.toList ++ rest)) : VM G x q h0 S pc lv st := fun h hm hf => r_callS C d F (fun l _ => M l G h) hn hst hcat hR (fun v h' ⟨e, e2⟩ => by subst e; subst e2; exact kk _ hm hf)

end MROWS
