/-! the makers: h0 stays as it is, L are the cells that are new -/
abbrev cL : Type := List (Nat × va_E)
def nwl (h0 : hp) (L : cL) : Prop := (∀ (i : Nat) (q : Nat × va_E), L[i]? = some q → h0 q.1 = none) ∧ ∀ (i j : Nat) (q r : Nat × va_E), L[i]? = some q → L[j]? = some r → q.1 = r.1 → i = j
def cel (L : cL) (h : hp) : Prop := ∀ (i : Nat) (q : Nat × va_E), L[i]? = some q → h q.1 = some q.2
theorem cel.le {L : cL} {h h' : hp} (c : cel L h) (l : hle h h') : cel L h' := fun i q e => l _ _ (c i q e)
theorem nwl_nil {h : hp} : nwl h [] := ⟨fun i q e => by simp at e, fun i j q r e => by simp at e⟩
theorem cel_nil {h : hp} : cel [] h := fun i q e => by simp at e
theorem cel.at {L : cL} {h : hp} (c : cel L h) (j : Nat) {a : Nat} {e : va_E} (hj : L[j]? = some (a, e)) : h a = some e := c j _ hj
theorem nwl.at {h0 : hp} {L : cL} (w : nwl h0 L) (j : Nat) {a : Nat} {e : va_E} (hj : L[j]? = some (a, e)) : h0 a = none := w.1 j _ hj
theorem set_at {L : cL} {j : Nat} {a : Nat} {e e' : va_E} (hj : L[j]? = some (a, e)) {i : Nat} {q : Nat × va_E} (hi : (L.set j (a, e'))[i]? = some q) : (i = j ∧ q = (a, e')) ∨ (i ≠ j ∧ L[i]? = some q) := by
  rw [List.getElem?_set] at hi
  have hl : j < L.length := (List.getElem?_eq_some_iff.mp hj).1
  by_cases c : j = i
  · subst c
    rw [if_pos rfl, if_pos hl] at hi
    exact Or.inl ⟨rfl, (Option.some.inj hi).symm⟩
  · rw [if_neg c] at hi
    exact Or.inr ⟨fun z => c z.symm, hi⟩
theorem nwl.set {h0 : hp} {L : cL} (w : nwl h0 L) {j : Nat} {a : Nat} {e e' : va_E} (hj : L[j]? = some (a, e)) : nwl h0 (L.set j (a, e')) := by
  refine ⟨fun i q hi => ?_, fun i k q r hi hk hqr => ?_⟩
  · rcases set_at hj hi with ⟨_, rfl⟩ | ⟨_, h⟩
    · exact w.1 j (a, e) hj
    · exact w.1 i _ h
  · rcases set_at hj hi with ⟨rfl, rfl⟩ | ⟨_, h⟩ <;> rcases set_at hj hk with ⟨rfl, rfl⟩ | ⟨_, h'⟩
    · rfl
    · exact w.2 _ _ _ _ hj h' hqr
    · exact w.2 _ _ _ _ h hj hqr
    · exact w.2 _ _ _ _ h h' hqr
theorem cel.set {h0 h : hp} {L : cL} (w : nwl h0 L) (c : cel L h) {j : Nat} {a : Nat} {e e' : va_E} (hj : L[j]? = some (a, e)) : cel (L.set j (a, e')) (hup h a e') := fun i q hi => by
  rcases set_at hj hi with ⟨_, rfl⟩ | ⟨hn, h1⟩
  · exact hup_s
  · rw [hup_n (fun z => hn (w.2 i j q _ h1 hj z))]; exact c i q h1
theorem hle_set {h0 h : hp} (l : hle h0 h) {a : Nat} {e' : va_E} (n : h0 a = none) : hle h0 (hup h a e') := fun b e q => by
  rw [hup_n (fun z => by rw [z, n] at q; cases q)]; exact l b e q
theorem nwl.cons {h0 h : hp} {L : cL} (w : nwl h0 L) (c : cel L h) (l : hle h0 h) {a : Nat} {e : va_E} (n : h a = none) : nwl h0 ((a, e) :: L) := by
  have n0 : h0 a = none := by
    cases q : h0 a with
    | none => rfl
    | some y => rw [l a y q] at n; cases n
  have na : ∀ (i : Nat) (q : Nat × va_E), L[i]? = some q → q.1 ≠ a := fun i q hi z => by have := c i q hi; rw [z, n] at this; cases this
  refine ⟨fun i q hi => ?_, fun i j q r hi hj hqr => ?_⟩
  · cases i with
    | zero => simp at hi; rw [← hi]; exact n0
    | succ i => simp at hi; exact w.1 i q hi
  · cases i with
    | zero =>
      cases j with
      | zero => rfl
      | succ j => simp at hi hj; exact absurd (by rw [← hqr, ← hi]) (na j r hj)
    | succ i =>
      cases j with
      | zero => simp at hi hj; exact absurd (by rw [hqr, ← hj]) (na i q hi)
      | succ j => simp at hi hj; rw [w.2 i j q r hi hj hqr]
theorem cel.cons {h : hp} {L : cL} (c : cel L h) {a : Nat} {e : va_E} (n : h a = none) : cel ((a, e) :: L) (hup h a e) := fun i q hi => by
  cases i with
  | zero => simp at hi; rw [← hi]; exact hup_s
  | succ i => simp at hi; rw [hup_n (fun z => by have := c i q hi; rw [z, n] at this; cases this)]; exact c i q hi
def VL (G : eG) (x : CX) (h0 : hp) (L : cL) (n1 n2 pc : Nat) (lv : List (Nat × Value)) (st : List Value) : Prop := ∀ h, hle h0 h → nwl h0 L → cel L h → VV G x n1 n2 h pc lv st
def kL (l : Launch) (G : eG) (h0 : hp) (L : cL) (y : MethodName) (b : ByteArray) (nL : Nat) (ret : Option FieldType) (rm : Room) (av : List Value) (post : Option Value → cL → Prop) : Prop :=
  ∀ h, hle h0 h → nwl h0 L → cel L h → MC l G y b nL ret rm av h (fun v h' => ∃ L', post v L' ∧ hle h0 h' ∧ nwl h0 L' ∧ cel L' h')
def kEndL (G : eG) (x : CX) (h0 : hp) (mc ms : Nat) (post : Option Value → cL → Prop) : Prop := cxR G (fun v h' => ∃ L', post v L' ∧ hle h0 h' ∧ nwl h0 L' ∧ cel L' h') mc ms x
theorem kL.of {l : Launch} {G : eG} {h0 : hp} {L : cL} {y : MethodName} {b : ByteArray} {nL : Nat} {ret : Option FieldType} {rm : Room} {av : List Value} {post : Option Value → cL → Prop} (hy : plainName y.cls = true) (hlen : (lg_sl av).length ≤ nL)
    (body : ∀ x, cxOk G y.cls b rm nL x → kEndL G x h0 rm.cells rm.slots post → cxT ret x → (y.name = "<init>" → cxI x) → VL G x h0 L 0 0 0 (lv_args 0 av) []) : kL l G h0 L y b nL ret rm av post := fun h a w c => MC.of hy hlen (fun x C A T I => body x C A T I h a w c)
/-- the heap without some cells -/
noncomputable def hno (L : cL) (h : hp) : hp := fun b => @ite _ (∃ (i : Nat) (q : Nat × va_E), L[i]? = some q ∧ q.1 = b) (Classical.propDecidable _) none (h b)
theorem hno_le {L : cL} {h : hp} : hle (hno L h) h := fun b e q => by
  unfold hno at q
  split at q
  · cases q
  · exact q
theorem hno_of {L : cL} {h : hp} {b : Nat} {e : va_E} (hb : h b = some e) (hn : ∀ (i : Nat) (q : Nat × va_E), L[i]? = some q → q.1 ≠ b) : hno L h b = some e := by
  unfold hno
  rw [if_neg (fun ⟨i, q, h1, h2⟩ => hn i q h1 h2)]; exact hb
theorem hno_none {L : cL} {h : hp} {i : Nat} {q : Nat × va_E} (hi : L[i]? = some q) : hno L h q.1 = none := by
  unfold hno
  rw [if_pos ⟨i, q, hi, rfl⟩]
theorem nwl.left {h0 h : hp} {L M : cL} (w : nwl h0 (L ++ M)) : nwl (hno L h) L := by
  have e : ∀ {i : Nat} {q : Nat × va_E}, L[i]? = some q → (L ++ M)[i]? = some q := fun {i q} hi => by
    rw [List.getElem?_append_left (List.getElem?_eq_some_iff.mp hi).1]; exact hi
  exact ⟨fun i q hi => hno_none hi, fun i j q r hi hj => w.2 i j q r (e hi) (e hj)⟩
theorem cel.left {h : hp} {L M : cL} (c : cel (L ++ M) h) : cel L h := fun i q hi => c i q (by rw [List.getElem?_append_left (List.getElem?_eq_some_iff.mp hi).1]; exact hi)
theorem app_right {L M : cL} {i : Nat} {q : Nat × va_E} (hi : M[i]? = some q) : (L ++ M)[L.length + i]? = some q := by
  rw [List.getElem?_append_right (by omega), Nat.add_sub_cancel_left]; exact hi
theorem cel.right {h0 h : hp} {L M : cL} (w : nwl h0 (L ++ M)) (c : cel (L ++ M) h) : cel M (hno L h) := fun i q hi => by
  refine hno_of (c _ q (app_right hi)) (fun j r hj z => ?_)
  have h1 := w.2 j (L.length + i) r q (by rw [List.getElem?_append_left (List.getElem?_eq_some_iff.mp hj).1]; exact hj) (app_right hi) z
  have h2 := (List.getElem?_eq_some_iff.mp hj).1
  omega
theorem hle.hno {h0 h : hp} {L M : cL} (l : hle h0 h) (w : nwl h0 (L ++ M)) : hle h0 (hno L h) := fun b e q => by
  refine hno_of (l b e q) (fun i r hi z => ?_)
  have := w.1 i r (by rw [List.getElem?_append_left (List.getElem?_eq_some_iff.mp hi).1]; exact hi)
  rw [z, q] at this; cases this
theorem app_cases {L M : cL} {i : Nat} {q : Nat × va_E} (hi : (L ++ M)[i]? = some q) : (i < L.length ∧ L[i]? = some q) ∨ (L.length ≤ i ∧ M[i - L.length]? = some q) := by
  by_cases c : i < L.length
  · rw [List.getElem?_append_left c] at hi; exact Or.inl ⟨c, hi⟩
  · rw [List.getElem?_append_right (by omega)] at hi; exact Or.inr ⟨by omega, hi⟩
theorem frame_nwl {h0 h1 : hp} {L' M : cL} (l : hle h0 h1) (w : nwl h1 L') (c : cel M h1) (wm : ∀ (i : Nat) (q : Nat × va_E), M[i]? = some q → h0 q.1 = none) (wd : ∀ (i j : Nat) (q r : Nat × va_E), M[i]? = some q → M[j]? = some r → q.1 = r.1 → i = j) : nwl h0 (L' ++ M) := by
  have nb : ∀ (i : Nat) (q : Nat × va_E), L'[i]? = some q → h0 q.1 = none := fun i q hi => by
    cases z : h0 q.1 with
    | none => rfl
    | some y => have h2 := l _ _ z; rw [w.1 i q hi] at h2; cases h2
  have nd : ∀ (i j : Nat) (q r : Nat × va_E), L'[i]? = some q → M[j]? = some r → q.1 ≠ r.1 := fun i j q r hi hj z => by
    have h2 := c j r hj
    have h3 := w.1 i q hi
    rw [z, h2] at h3; cases h3
  refine ⟨fun i q hi => ?_, fun i j q r hi hj hqr => ?_⟩
  · rcases app_cases hi with ⟨_, h⟩ | ⟨_, h⟩
    · exact nb _ _ h
    · exact wm _ _ h
  · rcases app_cases hi with ⟨a, h⟩ | ⟨a, h⟩ <;> rcases app_cases hj with ⟨b, h'⟩ | ⟨b, h'⟩
    · exact w.2 _ _ _ _ h h' hqr
    · exact absurd hqr (nd _ _ _ _ h h')
    · exact absurd hqr.symm (nd _ _ _ _ h' h)
    · have := wd _ _ _ _ h h' hqr; omega
theorem cel.app {h : hp} {L M : cL} (a : cel L h) (b : cel M h) : cel (L ++ M) h := fun i q hi => by
  rcases app_cases hi with ⟨_, h⟩ | ⟨_, h⟩
  · exact a _ _ h
  · exact b _ _ h
theorem frame_out {h0 h h' : hp} {L L' M : cL} (a : hle h0 h) (w : nwl h0 (L ++ M)) (c : cel (L ++ M) h) (q : hle (hno L h) h') (r : nwl (hno L h) L') (s : cel L' h') : hle h0 h' ∧ nwl h0 (L' ++ M) ∧ cel (L' ++ M) h' :=
  ⟨hle_tr (a.hno w) q, frame_nwl (a.hno w) r (cel.right w c) (fun i q hi => w.1 _ q (app_right hi)) (fun i j q r hi hj z => by have := w.2 _ _ _ _ (app_right hi) (app_right hj) z; omega), s.app ((cel.right w c).le q)⟩
section LROWS
variable {G : eG} {x : CX} {h0 : hp} {L : cL} {n1 n2 : Nat} {pc nx : Nat} {lv : List (Nat × Value)} {st : List Value} {own : String} {cc : ByteArray} {rm : Room} {nL : Nat}
theorem w_iconst (C : cxOk G own cc rm nL x) {i : Int} {v : Int32} (d : dn cc pc (.iconst i) 1 nx) (hv : Int32.ofInt i = v) (kk : VL G x h0 L n1 n2 nx lv (.int v :: st)) : VL G x h0 L n1 n2 pc lv (st) := fun h8 hm8 hw8 hc8 => r_iconst C d hv (kk h8 hm8 hw8 hc8)
theorem w_bipush (C : cxOk G own cc rm nL x) {i : Int} {v : Int32} (d : dn cc pc (.bipush i) 2 nx) (hv : (Int8.ofInt i).toInt32 = v) (kk : VL G x h0 L n1 n2 nx lv (.int v :: st)) : VL G x h0 L n1 n2 pc lv (st) := fun h8 hm8 hw8 hc8 => r_bipush C d hv (kk h8 hm8 hw8 hc8)
theorem w_sipush (C : cxOk G own cc rm nL x) {i : Int} {v : Int32} (d : dn cc pc (.sipush i) 3 nx) (hv : (Int16.ofInt i).toInt32 = v) (kk : VL G x h0 L n1 n2 nx lv (.int v :: st)) : VL G x h0 L n1 n2 pc lv (st) := fun h8 hm8 hw8 hc8 => r_sipush C d hv (kk h8 hm8 hw8 hc8)
theorem w_lconst (C : cxOk G own cc rm nL x) {i : Fin 2} {v : Int64} (d : dn cc pc (.lconst i) 1 nx) (hv : Int64.ofNat (i : Nat) = v) (kk : VL G x h0 L n1 n2 nx lv (.long v :: st)) : VL G x h0 L n1 n2 pc lv (st) := fun h8 hm8 hw8 hc8 => r_lconst C d hv (kk h8 hm8 hw8 hc8)
theorem w_null (C : cxOk G own cc rm nL x) (d : dn cc pc (.aconst_null) 1 nx)  (kk : VL G x h0 L n1 n2 nx lv (.null :: st)) : VL G x h0 L n1 n2 pc lv (st) := fun h8 hm8 hw8 hc8 => r_null C d (kk h8 hm8 hw8 hc8)
theorem w_ldc (C : cxOk G own cc rm nL x) {i : Nat} {v : Int32} (d : dn cc pc (.ldc i) 2 nx) (hc : Jvm.Cond.constant own i v ∈ TB) (kk : VL G x h0 L n1 n2 nx lv (.int v :: st)) : VL G x h0 L n1 n2 pc lv (st) := fun h8 hm8 hw8 hc8 => r_ldc C d hc (kk h8 hm8 hw8 hc8)
theorem w_ldc2 (C : cxOk G own cc rm nL x) {i : Nat} {v : Int64} (d : dn cc pc (.ldc2_w i) 3 nx) (hc : Jvm.Cond.constantLong own i v ∈ TB) (kk : VL G x h0 L n1 n2 nx lv (.long v :: st)) : VL G x h0 L n1 n2 pc lv (st) := fun h8 hm8 hw8 hc8 => r_ldc2 C d hc (kk h8 hm8 hw8 hc8)
theorem w_iload_n (C : cxOk G own cc rm nL x) {i : Fin 4} {v : Int32} (d : dn cc pc (.iload_n i) 1 nx) (j : Nat) (hk : lv[j]? = some ((i : Nat), .int v)) (kk : VL G x h0 L n1 n2 nx lv (.int v :: st)) : VL G x h0 L n1 n2 pc lv (st) := fun h8 hm8 hw8 hc8 => r_iload_n C d j hk (kk h8 hm8 hw8 hc8)
theorem w_iload (C : cxOk G own cc rm nL x) {i : Nat} {v : Int32} (d : dn cc pc (.iload i) 2 nx) (j : Nat) (hk : lv[j]? = some (i, .int v)) (kk : VL G x h0 L n1 n2 nx lv (.int v :: st)) : VL G x h0 L n1 n2 pc lv (st) := fun h8 hm8 hw8 hc8 => r_iload C d j hk (kk h8 hm8 hw8 hc8)
theorem w_lload_n (C : cxOk G own cc rm nL x) {i : Fin 4} {v : Int64} (d : dn cc pc (.lload_n i) 1 nx) (j : Nat) (hk : lv[j]? = some ((i : Nat), .long v)) (kk : VL G x h0 L n1 n2 nx lv (.long v :: st)) : VL G x h0 L n1 n2 pc lv (st) := fun h8 hm8 hw8 hc8 => r_lload_n C d j hk (kk h8 hm8 hw8 hc8)
theorem w_lload (C : cxOk G own cc rm nL x) {i : Nat} {v : Int64} (d : dn cc pc (.lload i) 2 nx) (j : Nat) (hk : lv[j]? = some (i, .long v)) (kk : VL G x h0 L n1 n2 nx lv (.long v :: st)) : VL G x h0 L n1 n2 pc lv (st) := fun h8 hm8 hw8 hc8 => r_lload C d j hk (kk h8 hm8 hw8 hc8)
theorem w_aload_n (C : cxOk G own cc rm nL x) {i : Fin 4} {v : Nat} (d : dn cc pc (.aload_n i) 1 nx) (j : Nat) (hk : lv[j]? = some ((i : Nat), .ref v)) (kk : VL G x h0 L n1 n2 nx lv (.ref v :: st)) : VL G x h0 L n1 n2 pc lv (st) := fun h8 hm8 hw8 hc8 => r_aload_n C d j hk (kk h8 hm8 hw8 hc8)
theorem w_aload (C : cxOk G own cc rm nL x) {i : Nat} {v : Nat} (d : dn cc pc (.aload i) 2 nx) (j : Nat) (hk : lv[j]? = some (i, .ref v)) (kk : VL G x h0 L n1 n2 nx lv (.ref v :: st)) : VL G x h0 L n1 n2 pc lv (st) := fun h8 hm8 hw8 hc8 => r_aload C d j hk (kk h8 hm8 hw8 hc8)
theorem w_istore_n (C : cxOk G own cc rm nL x) {i : Fin 4} {v : Int32} (d : dn cc pc (.istore_n i) 1 nx) {lv' : List (Nat × Value)} (hn : (i : Nat) < nL) (hl2 : ((i : Nat), Value.int v) :: lv.filter (fun q => !(q.1 == (i : Nat)) && !(q.1 + 1 == (i : Nat) && q.2.category == 2)) = lv') (kk : VL G x h0 L n1 n2 nx lv' (st)) : VL G x h0 L n1 n2 pc lv (.int v :: st) := fun h8 hm8 hw8 hc8 => r_istore_n C d hn hl2 (kk h8 hm8 hw8 hc8)
theorem w_istore (C : cxOk G own cc rm nL x) {i : Nat} {v : Int32} (d : dn cc pc (.istore i) 2 nx) {lv' : List (Nat × Value)} (hn : i < nL) (hl2 : (i, Value.int v) :: lv.filter (fun q => !(q.1 == i) && !(q.1 + 1 == i && q.2.category == 2)) = lv') (kk : VL G x h0 L n1 n2 nx lv' (st)) : VL G x h0 L n1 n2 pc lv (.int v :: st) := fun h8 hm8 hw8 hc8 => r_istore C d hn hl2 (kk h8 hm8 hw8 hc8)
theorem w_astore_n (C : cxOk G own cc rm nL x) {i : Fin 4} {v : Nat} (d : dn cc pc (.astore_n i) 1 nx) {lv' : List (Nat × Value)} (hn : (i : Nat) < nL) (hl2 : ((i : Nat), Value.ref v) :: lv.filter (fun q => !(q.1 == (i : Nat)) && !(q.1 + 1 == (i : Nat) && q.2.category == 2)) = lv') (kk : VL G x h0 L n1 n2 nx lv' (st)) : VL G x h0 L n1 n2 pc lv (.ref v :: st) := fun h8 hm8 hw8 hc8 => r_astore_n C d hn hl2 (kk h8 hm8 hw8 hc8)
theorem w_astore (C : cxOk G own cc rm nL x) {i : Nat} {v : Nat} (d : dn cc pc (.astore i) 2 nx) {lv' : List (Nat × Value)} (hn : i < nL) (hl2 : (i, Value.ref v) :: lv.filter (fun q => !(q.1 == i) && !(q.1 + 1 == i && q.2.category == 2)) = lv') (kk : VL G x h0 L n1 n2 nx lv' (st)) : VL G x h0 L n1 n2 pc lv (.ref v :: st) := fun h8 hm8 hw8 hc8 => r_astore C d hn hl2 (kk h8 hm8 hw8 hc8)
theorem w_lstore_n (C : cxOk G own cc rm nL x) {i : Fin 4} {v : Int64} (d : dn cc pc (.lstore_n i) 1 nx) {lv' : List (Nat × Value)} (hn : (i : Nat) + 1 < nL) (hl2 : ((i : Nat), Value.long v) :: lv.filter (fun q => !(q.1 == (i : Nat)) && (!(q.1 == (i : Nat) + 1) && !(q.1 + 1 == (i : Nat) && q.2.category == 2))) = lv') (kk : VL G x h0 L n1 n2 nx lv' (st)) : VL G x h0 L n1 n2 pc lv (.long v :: st) := fun h8 hm8 hw8 hc8 => r_lstore_n C d hn hl2 (kk h8 hm8 hw8 hc8)
theorem w_lstore (C : cxOk G own cc rm nL x) {i : Nat} {v : Int64} (d : dn cc pc (.lstore i) 2 nx) {lv' : List (Nat × Value)} (hn : i + 1 < nL) (hl2 : (i, Value.long v) :: lv.filter (fun q => !(q.1 == i) && (!(q.1 == i + 1) && !(q.1 + 1 == i && q.2.category == 2))) = lv') (kk : VL G x h0 L n1 n2 nx lv' (st)) : VL G x h0 L n1 n2 pc lv (.long v :: st) := fun h8 hm8 hw8 hc8 => r_lstore C d hn hl2 (kk h8 hm8 hw8 hc8)
theorem w_iinc (C : cxOk G own cc rm nL x) {i : Nat} {k : Int} {a v : Int32} (d : dn cc pc (.iinc i k) 3 nx) {lv' : List (Nat × Value)} (j : Nat) (hk : lv[j]? = some (i, .int a)) (hv : a + Int32.ofInt k = v) (hn : i < nL) (hl2 : (i, Value.int v) :: lv.filter (fun q => !(q.1 == i) && !(q.1 + 1 == i && q.2.category == 2)) = lv') (kk : VL G x h0 L n1 n2 nx lv' (st)) : VL G x h0 L n1 n2 pc lv (st) := fun h8 hm8 hw8 hc8 => r_iinc C d j hk hv hn hl2 (kk h8 hm8 hw8 hc8)
theorem w_iadd (C : cxOk G own cc rm nL x) {a b : Int32} (d : dn cc pc (.iadd) 1 nx)  (kk : VL G x h0 L n1 n2 nx lv (.int (a + b) :: st)) : VL G x h0 L n1 n2 pc lv (.int b :: .int a :: st) := fun h8 hm8 hw8 hc8 => r_iadd C d (kk h8 hm8 hw8 hc8)
theorem w_isub (C : cxOk G own cc rm nL x) {a b : Int32} (d : dn cc pc (.isub) 1 nx)  (kk : VL G x h0 L n1 n2 nx lv (.int (a - b) :: st)) : VL G x h0 L n1 n2 pc lv (.int b :: .int a :: st) := fun h8 hm8 hw8 hc8 => r_isub C d (kk h8 hm8 hw8 hc8)
theorem w_imul (C : cxOk G own cc rm nL x) {a b : Int32} (d : dn cc pc (.imul) 1 nx)  (kk : VL G x h0 L n1 n2 nx lv (.int (a * b) :: st)) : VL G x h0 L n1 n2 pc lv (.int b :: .int a :: st) := fun h8 hm8 hw8 hc8 => r_imul C d (kk h8 hm8 hw8 hc8)
theorem w_iand (C : cxOk G own cc rm nL x) {a b : Int32} (d : dn cc pc (.iand) 1 nx)  (kk : VL G x h0 L n1 n2 nx lv (.int (a &&& b) :: st)) : VL G x h0 L n1 n2 pc lv (.int b :: .int a :: st) := fun h8 hm8 hw8 hc8 => r_iand C d (kk h8 hm8 hw8 hc8)
theorem w_ior (C : cxOk G own cc rm nL x) {a b : Int32} (d : dn cc pc (.ior) 1 nx)  (kk : VL G x h0 L n1 n2 nx lv (.int (a ||| b) :: st)) : VL G x h0 L n1 n2 pc lv (.int b :: .int a :: st) := fun h8 hm8 hw8 hc8 => r_ior C d (kk h8 hm8 hw8 hc8)
theorem w_ixor (C : cxOk G own cc rm nL x) {a b : Int32} (d : dn cc pc (.ixor) 1 nx)  (kk : VL G x h0 L n1 n2 nx lv (.int (a ^^^ b) :: st)) : VL G x h0 L n1 n2 pc lv (.int b :: .int a :: st) := fun h8 hm8 hw8 hc8 => r_ixor C d (kk h8 hm8 hw8 hc8)
theorem w_ishl (C : cxOk G own cc rm nL x) {a b : Int32} (d : dn cc pc (.ishl) 1 nx)  (kk : VL G x h0 L n1 n2 nx lv (.int (a <<< (b &&& 31)) :: st)) : VL G x h0 L n1 n2 pc lv (.int b :: .int a :: st) := fun h8 hm8 hw8 hc8 => r_ishl C d (kk h8 hm8 hw8 hc8)
theorem w_ishr (C : cxOk G own cc rm nL x) {a b : Int32} (d : dn cc pc (.ishr) 1 nx)  (kk : VL G x h0 L n1 n2 nx lv (.int (a >>> (b &&& 31)) :: st)) : VL G x h0 L n1 n2 pc lv (.int b :: .int a :: st) := fun h8 hm8 hw8 hc8 => r_ishr C d (kk h8 hm8 hw8 hc8)
theorem w_iushr (C : cxOk G own cc rm nL x) {a b : Int32} (d : dn cc pc (.iushr) 1 nx)  (kk : VL G x h0 L n1 n2 nx lv (.int (a.toUInt32 >>> (b.toUInt32 &&& Int32.toUInt32 31)).toInt32 :: st)) : VL G x h0 L n1 n2 pc lv (.int b :: .int a :: st) := fun h8 hm8 hw8 hc8 => r_iushr C d (kk h8 hm8 hw8 hc8)
theorem w_idiv (C : cxOk G own cc rm nL x) {a b : Int32} (d : dn cc pc (.idiv) 1 nx) (hb : ¬ b = 0) (kk : VL G x h0 L n1 n2 nx lv (.int (a / b) :: st)) : VL G x h0 L n1 n2 pc lv (.int b :: .int a :: st) := fun h8 hm8 hw8 hc8 => r_idiv C d hb (kk h8 hm8 hw8 hc8)
theorem w_irem (C : cxOk G own cc rm nL x) {a b : Int32} (d : dn cc pc (.irem) 1 nx) (hb : ¬ b = 0) (kk : VL G x h0 L n1 n2 nx lv (.int (a - a / b * b) :: st)) : VL G x h0 L n1 n2 pc lv (.int b :: .int a :: st) := fun h8 hm8 hw8 hc8 => r_irem C d hb (kk h8 hm8 hw8 hc8)
theorem w_ineg (C : cxOk G own cc rm nL x) {a : Int32} (d : dn cc pc (.ineg) 1 nx)  (kk : VL G x h0 L n1 n2 nx lv (.int (-a) :: st)) : VL G x h0 L n1 n2 pc lv (.int a :: st) := fun h8 hm8 hw8 hc8 => r_ineg C d (kk h8 hm8 hw8 hc8)
theorem w_ladd (C : cxOk G own cc rm nL x) {a b : Int64} (d : dn cc pc (.ladd) 1 nx)  (kk : VL G x h0 L n1 n2 nx lv (.long (a + b) :: st)) : VL G x h0 L n1 n2 pc lv (.long b :: .long a :: st) := fun h8 hm8 hw8 hc8 => r_ladd C d (kk h8 hm8 hw8 hc8)
theorem w_land (C : cxOk G own cc rm nL x) {a b : Int64} (d : dn cc pc (.land) 1 nx)  (kk : VL G x h0 L n1 n2 nx lv (.long (a &&& b) :: st)) : VL G x h0 L n1 n2 pc lv (.long b :: .long a :: st) := fun h8 hm8 hw8 hc8 => r_land C d (kk h8 hm8 hw8 hc8)
theorem w_lor (C : cxOk G own cc rm nL x) {a b : Int64} (d : dn cc pc (.lor) 1 nx)  (kk : VL G x h0 L n1 n2 nx lv (.long (a ||| b) :: st)) : VL G x h0 L n1 n2 pc lv (.long b :: .long a :: st) := fun h8 hm8 hw8 hc8 => r_lor C d (kk h8 hm8 hw8 hc8)
theorem w_lxor (C : cxOk G own cc rm nL x) {a b : Int64} (d : dn cc pc (.lxor) 1 nx)  (kk : VL G x h0 L n1 n2 nx lv (.long (a ^^^ b) :: st)) : VL G x h0 L n1 n2 pc lv (.long b :: .long a :: st) := fun h8 hm8 hw8 hc8 => r_lxor C d (kk h8 hm8 hw8 hc8)
theorem w_lushr (C : cxOk G own cc rm nL x) {a : Int64} {b : Int32} (d : dn cc pc (.lushr) 1 nx)  (kk : VL G x h0 L n1 n2 nx lv (.long (a.toUInt64 >>> (b.toInt64.toUInt64 &&& Int64.toUInt64 63)).toInt64 :: st)) : VL G x h0 L n1 n2 pc lv (.int b :: .long a :: st) := fun h8 hm8 hw8 hc8 => r_lushr C d (kk h8 hm8 hw8 hc8)
theorem w_lshl (C : cxOk G own cc rm nL x) {a : Int64} {b : Int32} (d : dn cc pc (.lshl) 1 nx)  (kk : VL G x h0 L n1 n2 nx lv (.long (a <<< (b.toInt64 &&& 63)) :: st)) : VL G x h0 L n1 n2 pc lv (.int b :: .long a :: st) := fun h8 hm8 hw8 hc8 => r_lshl C d (kk h8 hm8 hw8 hc8)
theorem w_lshr (C : cxOk G own cc rm nL x) {a : Int64} {b : Int32} (d : dn cc pc (.lshr) 1 nx)  (kk : VL G x h0 L n1 n2 nx lv (.long (a >>> (b.toInt64 &&& 63)) :: st)) : VL G x h0 L n1 n2 pc lv (.int b :: .long a :: st) := fun h8 hm8 hw8 hc8 => r_lshr C d (kk h8 hm8 hw8 hc8)
theorem w_lcmp (C : cxOk G own cc rm nL x) {a b : Int64} (d : dn cc pc (.lcmp) 1 nx)  (kk : VL G x h0 L n1 n2 nx lv (.int (lg_cmp a b) :: st)) : VL G x h0 L n1 n2 pc lv (.long b :: .long a :: st) := fun h8 hm8 hw8 hc8 => r_lcmp C d (kk h8 hm8 hw8 hc8)
theorem w_i2l (C : cxOk G own cc rm nL x) {a : Int32} (d : dn cc pc (.i2l) 1 nx)  (kk : VL G x h0 L n1 n2 nx lv (.long a.toInt64 :: st)) : VL G x h0 L n1 n2 pc lv (.int a :: st) := fun h8 hm8 hw8 hc8 => r_i2l C d (kk h8 hm8 hw8 hc8)
theorem w_l2i (C : cxOk G own cc rm nL x) {a : Int64} (d : dn cc pc (.l2i) 1 nx)  (kk : VL G x h0 L n1 n2 nx lv (.int a.toInt32 :: st)) : VL G x h0 L n1 n2 pc lv (.long a :: st) := fun h8 hm8 hw8 hc8 => r_l2i C d (kk h8 hm8 hw8 hc8)
theorem w_dup (C : cxOk G own cc rm nL x) {v : Value} (d : dn cc pc (.dup) 1 nx) (hv : v.category = 1) (kk : VL G x h0 L n1 n2 nx lv (v :: v :: st)) : VL G x h0 L n1 n2 pc lv (v :: st) := fun h8 hm8 hw8 hc8 => r_dup C d hv (kk h8 hm8 hw8 hc8)
theorem w_pop (C : cxOk G own cc rm nL x) {v : Value} (d : dn cc pc (.pop) 1 nx) (hv : v.category = 1) (kk : VL G x h0 L n1 n2 nx lv (st)) : VL G x h0 L n1 n2 pc lv (v :: st) := fun h8 hm8 hw8 hc8 => r_pop C d hv (kk h8 hm8 hw8 hc8)
theorem w_dup2 (C : cxOk G own cc rm nL x) {v w : Value} (d : dn cc pc (.dup2) 1 nx) (hv : v.category = 1) (hw : w.category = 1) (kk : VL G x h0 L n1 n2 nx lv (v :: w :: v :: w :: st)) : VL G x h0 L n1 n2 pc lv (v :: w :: st) := fun h8 hm8 hw8 hc8 => r_dup2 C d hv hw (kk h8 hm8 hw8 hc8)
theorem w_if_eq (C : cxOk G own cc rm nL x) {off : Int} {tgt : Nat} {a : Int32} (d : dn cc pc (.ifCond .eq off) 3 nx) (ht : (pc : Int) + off = (tgt : Int)) (kt : a = 0 → VL G x h0 L n1 n2 tgt lv (st)) (kf : ¬ (a = 0) → VL G x h0 L n1 n2 nx lv (st)) : VL G x h0 L n1 n2 pc lv (.int a :: st) := fun h8 hm8 hw8 hc8 => r_if_eq C d ht (fun c => kt c h8 hm8 hw8 hc8) (fun c => kf c h8 hm8 hw8 hc8)
theorem w_if_ne (C : cxOk G own cc rm nL x) {off : Int} {tgt : Nat} {a : Int32} (d : dn cc pc (.ifCond .ne off) 3 nx) (ht : (pc : Int) + off = (tgt : Int)) (kt : ¬ a = 0 → VL G x h0 L n1 n2 tgt lv (st)) (kf : ¬ (¬ a = 0) → VL G x h0 L n1 n2 nx lv (st)) : VL G x h0 L n1 n2 pc lv (.int a :: st) := fun h8 hm8 hw8 hc8 => r_if_ne C d ht (fun c => kt c h8 hm8 hw8 hc8) (fun c => kf c h8 hm8 hw8 hc8)
theorem w_if_lt (C : cxOk G own cc rm nL x) {off : Int} {tgt : Nat} {a : Int32} (d : dn cc pc (.ifCond .lt off) 3 nx) (ht : (pc : Int) + off = (tgt : Int)) (kt : a < 0 → VL G x h0 L n1 n2 tgt lv (st)) (kf : ¬ (a < 0) → VL G x h0 L n1 n2 nx lv (st)) : VL G x h0 L n1 n2 pc lv (.int a :: st) := fun h8 hm8 hw8 hc8 => r_if_lt C d ht (fun c => kt c h8 hm8 hw8 hc8) (fun c => kf c h8 hm8 hw8 hc8)
theorem w_if_ge (C : cxOk G own cc rm nL x) {off : Int} {tgt : Nat} {a : Int32} (d : dn cc pc (.ifCond .ge off) 3 nx) (ht : (pc : Int) + off = (tgt : Int)) (kt : 0 ≤ a → VL G x h0 L n1 n2 tgt lv (st)) (kf : ¬ (0 ≤ a) → VL G x h0 L n1 n2 nx lv (st)) : VL G x h0 L n1 n2 pc lv (.int a :: st) := fun h8 hm8 hw8 hc8 => r_if_ge C d ht (fun c => kt c h8 hm8 hw8 hc8) (fun c => kf c h8 hm8 hw8 hc8)
theorem w_if_gt (C : cxOk G own cc rm nL x) {off : Int} {tgt : Nat} {a : Int32} (d : dn cc pc (.ifCond .gt off) 3 nx) (ht : (pc : Int) + off = (tgt : Int)) (kt : 0 < a → VL G x h0 L n1 n2 tgt lv (st)) (kf : ¬ (0 < a) → VL G x h0 L n1 n2 nx lv (st)) : VL G x h0 L n1 n2 pc lv (.int a :: st) := fun h8 hm8 hw8 hc8 => r_if_gt C d ht (fun c => kt c h8 hm8 hw8 hc8) (fun c => kf c h8 hm8 hw8 hc8)
theorem w_if_le (C : cxOk G own cc rm nL x) {off : Int} {tgt : Nat} {a : Int32} (d : dn cc pc (.ifCond .le off) 3 nx) (ht : (pc : Int) + off = (tgt : Int)) (kt : a ≤ 0 → VL G x h0 L n1 n2 tgt lv (st)) (kf : ¬ (a ≤ 0) → VL G x h0 L n1 n2 nx lv (st)) : VL G x h0 L n1 n2 pc lv (.int a :: st) := fun h8 hm8 hw8 hc8 => r_if_le C d ht (fun c => kt c h8 hm8 hw8 hc8) (fun c => kf c h8 hm8 hw8 hc8)
theorem w_icmp_eq (C : cxOk G own cc rm nL x) {off : Int} {tgt : Nat} {a b : Int32} (d : dn cc pc (.if_icmp .eq off) 3 nx) (ht : (pc : Int) + off = (tgt : Int)) (kt : a = b → VL G x h0 L n1 n2 tgt lv (st)) (kf : ¬ (a = b) → VL G x h0 L n1 n2 nx lv (st)) : VL G x h0 L n1 n2 pc lv (.int b :: .int a :: st) := fun h8 hm8 hw8 hc8 => r_icmp_eq C d ht (fun c => kt c h8 hm8 hw8 hc8) (fun c => kf c h8 hm8 hw8 hc8)
theorem w_icmp_ne (C : cxOk G own cc rm nL x) {off : Int} {tgt : Nat} {a b : Int32} (d : dn cc pc (.if_icmp .ne off) 3 nx) (ht : (pc : Int) + off = (tgt : Int)) (kt : ¬ a = b → VL G x h0 L n1 n2 tgt lv (st)) (kf : ¬ (¬ a = b) → VL G x h0 L n1 n2 nx lv (st)) : VL G x h0 L n1 n2 pc lv (.int b :: .int a :: st) := fun h8 hm8 hw8 hc8 => r_icmp_ne C d ht (fun c => kt c h8 hm8 hw8 hc8) (fun c => kf c h8 hm8 hw8 hc8)
theorem w_icmp_lt (C : cxOk G own cc rm nL x) {off : Int} {tgt : Nat} {a b : Int32} (d : dn cc pc (.if_icmp .lt off) 3 nx) (ht : (pc : Int) + off = (tgt : Int)) (kt : a < b → VL G x h0 L n1 n2 tgt lv (st)) (kf : ¬ (a < b) → VL G x h0 L n1 n2 nx lv (st)) : VL G x h0 L n1 n2 pc lv (.int b :: .int a :: st) := fun h8 hm8 hw8 hc8 => r_icmp_lt C d ht (fun c => kt c h8 hm8 hw8 hc8) (fun c => kf c h8 hm8 hw8 hc8)
theorem w_icmp_ge (C : cxOk G own cc rm nL x) {off : Int} {tgt : Nat} {a b : Int32} (d : dn cc pc (.if_icmp .ge off) 3 nx) (ht : (pc : Int) + off = (tgt : Int)) (kt : b ≤ a → VL G x h0 L n1 n2 tgt lv (st)) (kf : ¬ (b ≤ a) → VL G x h0 L n1 n2 nx lv (st)) : VL G x h0 L n1 n2 pc lv (.int b :: .int a :: st) := fun h8 hm8 hw8 hc8 => r_icmp_ge C d ht (fun c => kt c h8 hm8 hw8 hc8) (fun c => kf c h8 hm8 hw8 hc8)
theorem w_icmp_gt (C : cxOk G own cc rm nL x) {off : Int} {tgt : Nat} {a b : Int32} (d : dn cc pc (.if_icmp .gt off) 3 nx) (ht : (pc : Int) + off = (tgt : Int)) (kt : b < a → VL G x h0 L n1 n2 tgt lv (st)) (kf : ¬ (b < a) → VL G x h0 L n1 n2 nx lv (st)) : VL G x h0 L n1 n2 pc lv (.int b :: .int a :: st) := fun h8 hm8 hw8 hc8 => r_icmp_gt C d ht (fun c => kt c h8 hm8 hw8 hc8) (fun c => kf c h8 hm8 hw8 hc8)
theorem w_icmp_le (C : cxOk G own cc rm nL x) {off : Int} {tgt : Nat} {a b : Int32} (d : dn cc pc (.if_icmp .le off) 3 nx) (ht : (pc : Int) + off = (tgt : Int)) (kt : a ≤ b → VL G x h0 L n1 n2 tgt lv (st)) (kf : ¬ (a ≤ b) → VL G x h0 L n1 n2 nx lv (st)) : VL G x h0 L n1 n2 pc lv (.int b :: .int a :: st) := fun h8 hm8 hw8 hc8 => r_icmp_le C d ht (fun c => kt c h8 hm8 hw8 hc8) (fun c => kf c h8 hm8 hw8 hc8)
theorem w_goto (C : cxOk G own cc rm nL x) {off : Int} {tgt : Nat} (d : dn cc pc (.goto off) 3 nx) (ht : (pc : Int) + off = (tgt : Int)) (kk : VL G x h0 L n1 n2 tgt lv (st)) : VL G x h0 L n1 n2 pc lv (st) := fun h8 hm8 hw8 hc8 => r_goto C d ht (kk h8 hm8 hw8 hc8)
theorem wn_iadd (C : cxOk G own cc rm nL x) {a b : Nat} (d : dn cc pc .iadd 1 nx) (kk : VL G x h0 L n1 n2 nx lv (.int (nI (a + b)) :: st)) : VL G x h0 L n1 n2 pc lv (.int (nI b) :: .int (nI a) :: st) := fun h8 hm8 hw8 hc8 => rn_iadd C d (kk h8 hm8 hw8 hc8)
theorem wn_isub (C : cxOk G own cc rm nL x) {a b : Nat} (d : dn cc pc .isub 1 nx) (hle : b ≤ a) (kk : VL G x h0 L n1 n2 nx lv (.int (nI (a - b)) :: st)) : VL G x h0 L n1 n2 pc lv (.int (nI b) :: .int (nI a) :: st) := fun h8 hm8 hw8 hc8 => rn_isub C d hle (kk h8 hm8 hw8 hc8)
theorem wn_imul (C : cxOk G own cc rm nL x) {a b : Nat} (d : dn cc pc .imul 1 nx) (kk : VL G x h0 L n1 n2 nx lv (.int (nI (a * b)) :: st)) : VL G x h0 L n1 n2 pc lv (.int (nI b) :: .int (nI a) :: st) := fun h8 hm8 hw8 hc8 => rn_imul C d (kk h8 hm8 hw8 hc8)
theorem wn_idiv (C : cxOk G own cc rm nL x) {a b : Nat} (d : dn cc pc .idiv 1 nx) (ha : a < 2147483648) (hz : 0 < b) (hb : b < 2147483648) (kk : VL G x h0 L n1 n2 nx lv (.int (nI (a / b)) :: st)) : VL G x h0 L n1 n2 pc lv (.int (nI b) :: .int (nI a) :: st) := fun h8 hm8 hw8 hc8 => rn_idiv C d ha hz hb (kk h8 hm8 hw8 hc8)
theorem wn_irem (C : cxOk G own cc rm nL x) {a b : Nat} (d : dn cc pc .irem 1 nx) (ha : a < 2147483648) (hz : 0 < b) (hb : b < 2147483648) (kk : VL G x h0 L n1 n2 nx lv (.int (nI (a % b)) :: st)) : VL G x h0 L n1 n2 pc lv (.int (nI b) :: .int (nI a) :: st) := fun h8 hm8 hw8 hc8 => rn_irem C d ha hz hb (kk h8 hm8 hw8 hc8)
theorem wn_iand (C : cxOk G own cc rm nL x) {a b : Nat} (d : dn cc pc .iand 1 nx) (kk : VL G x h0 L n1 n2 nx lv (.int (nI (a &&& b)) :: st)) : VL G x h0 L n1 n2 pc lv (.int (nI b) :: .int (nI a) :: st) := fun h8 hm8 hw8 hc8 => rn_iand C d (kk h8 hm8 hw8 hc8)
theorem wn_ior (C : cxOk G own cc rm nL x) {a b : Nat} (d : dn cc pc .ior 1 nx) (kk : VL G x h0 L n1 n2 nx lv (.int (nI (a ||| b)) :: st)) : VL G x h0 L n1 n2 pc lv (.int (nI b) :: .int (nI a) :: st) := fun h8 hm8 hw8 hc8 => rn_ior C d (kk h8 hm8 hw8 hc8)
theorem wn_ishl (C : cxOk G own cc rm nL x) {a b : Nat} (d : dn cc pc .ishl 1 nx) (hb : b < 32) (kk : VL G x h0 L n1 n2 nx lv (.int (nI (a * 2 ^ b)) :: st)) : VL G x h0 L n1 n2 pc lv (.int (nI b) :: .int (nI a) :: st) := fun h8 hm8 hw8 hc8 => rn_ishl C d hb (kk h8 hm8 hw8 hc8)
theorem wn_ishr (C : cxOk G own cc rm nL x) {a b : Nat} (d : dn cc pc .ishr 1 nx) (ha : a < 2147483648) (hb : b < 32) (kk : VL G x h0 L n1 n2 nx lv (.int (nI (a / 2 ^ b)) :: st)) : VL G x h0 L n1 n2 pc lv (.int (nI b) :: .int (nI a) :: st) := fun h8 hm8 hw8 hc8 => rn_ishr C d ha hb (kk h8 hm8 hw8 hc8)
theorem wn_iushr (C : cxOk G own cc rm nL x) {a b : Nat} (d : dn cc pc .iushr 1 nx) (ha : a < 4294967296) (hb : b < 32) (kk : VL G x h0 L n1 n2 nx lv (.int (nI (a / 2 ^ b)) :: st)) : VL G x h0 L n1 n2 pc lv (.int (nI b) :: .int (nI a) :: st) := fun h8 hm8 hw8 hc8 => rn_iushr C d ha hb (kk h8 hm8 hw8 hc8)
theorem wn_iinc (C : cxOk G own cc rm nL x) {i a b : Nat} {k : Int} {lv' : List (Nat × Value)} (d : dn cc pc (.iinc i k) 3 nx) (j : Nat) (hk : lv[j]? = some (i, .int (nI a))) (hv : nI a + Int32.ofInt k = nI b) (hn : i < nL) (hl2 : (i, Value.int (nI b)) :: lv.filter (fun q => !(q.1 == i) && !(q.1 + 1 == i && q.2.category == 2)) = lv') (kk : VL G x h0 L n1 n2 nx lv' (st)) : VL G x h0 L n1 n2 pc lv (st) := fun h8 hm8 hw8 hc8 => rn_iinc C d j hk hv hn hl2 (kk h8 hm8 hw8 hc8)
theorem wn_icmp_eq (C : cxOk G own cc rm nL x) {off : Int} {tgt a b : Nat} (d : dn cc pc (.if_icmp .eq off) 3 nx) (ht : (pc : Int) + off = (tgt : Int)) (ha : a < 2147483648) (hb : b < 2147483648) (kt : a = b → VL G x h0 L n1 n2 tgt lv (st)) (kf : ¬ a = b → VL G x h0 L n1 n2 nx lv (st)) : VL G x h0 L n1 n2 pc lv (.int (nI b) :: .int (nI a) :: st) := fun h8 hm8 hw8 hc8 => rn_icmp_eq C d ht ha hb (fun c => kt c h8 hm8 hw8 hc8) (fun c => kf c h8 hm8 hw8 hc8)
theorem wn_icmp_ne (C : cxOk G own cc rm nL x) {off : Int} {tgt a b : Nat} (d : dn cc pc (.if_icmp .ne off) 3 nx) (ht : (pc : Int) + off = (tgt : Int)) (ha : a < 2147483648) (hb : b < 2147483648) (kt : ¬ a = b → VL G x h0 L n1 n2 tgt lv (st)) (kf : a = b → VL G x h0 L n1 n2 nx lv (st)) : VL G x h0 L n1 n2 pc lv (.int (nI b) :: .int (nI a) :: st) := fun h8 hm8 hw8 hc8 => rn_icmp_ne C d ht ha hb (fun c => kt c h8 hm8 hw8 hc8) (fun c => kf c h8 hm8 hw8 hc8)
theorem wn_icmp_lt (C : cxOk G own cc rm nL x) {off : Int} {tgt a b : Nat} (d : dn cc pc (.if_icmp .lt off) 3 nx) (ht : (pc : Int) + off = (tgt : Int)) (ha : a < 2147483648) (hb : b < 2147483648) (kt : a < b → VL G x h0 L n1 n2 tgt lv (st)) (kf : b ≤ a → VL G x h0 L n1 n2 nx lv (st)) : VL G x h0 L n1 n2 pc lv (.int (nI b) :: .int (nI a) :: st) := fun h8 hm8 hw8 hc8 => rn_icmp_lt C d ht ha hb (fun c => kt c h8 hm8 hw8 hc8) (fun c => kf c h8 hm8 hw8 hc8)
theorem wn_icmp_ge (C : cxOk G own cc rm nL x) {off : Int} {tgt a b : Nat} (d : dn cc pc (.if_icmp .ge off) 3 nx) (ht : (pc : Int) + off = (tgt : Int)) (ha : a < 2147483648) (hb : b < 2147483648) (kt : b ≤ a → VL G x h0 L n1 n2 tgt lv (st)) (kf : a < b → VL G x h0 L n1 n2 nx lv (st)) : VL G x h0 L n1 n2 pc lv (.int (nI b) :: .int (nI a) :: st) := fun h8 hm8 hw8 hc8 => rn_icmp_ge C d ht ha hb (fun c => kt c h8 hm8 hw8 hc8) (fun c => kf c h8 hm8 hw8 hc8)
theorem wn_icmp_gt (C : cxOk G own cc rm nL x) {off : Int} {tgt a b : Nat} (d : dn cc pc (.if_icmp .gt off) 3 nx) (ht : (pc : Int) + off = (tgt : Int)) (ha : a < 2147483648) (hb : b < 2147483648) (kt : b < a → VL G x h0 L n1 n2 tgt lv (st)) (kf : a ≤ b → VL G x h0 L n1 n2 nx lv (st)) : VL G x h0 L n1 n2 pc lv (.int (nI b) :: .int (nI a) :: st) := fun h8 hm8 hw8 hc8 => rn_icmp_gt C d ht ha hb (fun c => kt c h8 hm8 hw8 hc8) (fun c => kf c h8 hm8 hw8 hc8)
theorem wn_icmp_le (C : cxOk G own cc rm nL x) {off : Int} {tgt a b : Nat} (d : dn cc pc (.if_icmp .le off) 3 nx) (ht : (pc : Int) + off = (tgt : Int)) (ha : a < 2147483648) (hb : b < 2147483648) (kt : a ≤ b → VL G x h0 L n1 n2 tgt lv (st)) (kf : b < a → VL G x h0 L n1 n2 nx lv (st)) : VL G x h0 L n1 n2 pc lv (.int (nI b) :: .int (nI a) :: st) := fun h8 hm8 hw8 hc8 => rn_icmp_le C d ht ha hb (fun c => kt c h8 hm8 hw8 hc8) (fun c => kf c h8 hm8 hw8 hc8)
theorem wn_if_eq (C : cxOk G own cc rm nL x) {off : Int} {tgt a : Nat} (d : dn cc pc (.ifCond .eq off) 3 nx) (ht : (pc : Int) + off = (tgt : Int)) (ha : a < 2147483648) (kt : a = 0 → VL G x h0 L n1 n2 tgt lv (st)) (kf : 0 < a → VL G x h0 L n1 n2 nx lv (st)) : VL G x h0 L n1 n2 pc lv (.int (nI a) :: st) := fun h8 hm8 hw8 hc8 => rn_if_eq C d ht ha (fun c => kt c h8 hm8 hw8 hc8) (fun c => kf c h8 hm8 hw8 hc8)
theorem wn_if_ne (C : cxOk G own cc rm nL x) {off : Int} {tgt a : Nat} (d : dn cc pc (.ifCond .ne off) 3 nx) (ht : (pc : Int) + off = (tgt : Int)) (ha : a < 2147483648) (kt : 0 < a → VL G x h0 L n1 n2 tgt lv (st)) (kf : a = 0 → VL G x h0 L n1 n2 nx lv (st)) : VL G x h0 L n1 n2 pc lv (.int (nI a) :: st) := fun h8 hm8 hw8 hc8 => rn_if_ne C d ht ha (fun c => kt c h8 hm8 hw8 hc8) (fun c => kf c h8 hm8 hw8 hc8)
theorem wn_if_lt (C : cxOk G own cc rm nL x) {off : Int} {tgt a : Nat} (d : dn cc pc (.ifCond .lt off) 3 nx) (ht : (pc : Int) + off = (tgt : Int)) (ha : a < 2147483648) (kt : False → VL G x h0 L n1 n2 tgt lv (st)) (kf : True → VL G x h0 L n1 n2 nx lv (st)) : VL G x h0 L n1 n2 pc lv (.int (nI a) :: st) := fun h8 hm8 hw8 hc8 => rn_if_lt C d ht ha (fun c => kt c h8 hm8 hw8 hc8) (fun c => kf c h8 hm8 hw8 hc8)
theorem wn_if_ge (C : cxOk G own cc rm nL x) {off : Int} {tgt a : Nat} (d : dn cc pc (.ifCond .ge off) 3 nx) (ht : (pc : Int) + off = (tgt : Int)) (ha : a < 2147483648) (kt : True → VL G x h0 L n1 n2 tgt lv (st)) (kf : False → VL G x h0 L n1 n2 nx lv (st)) : VL G x h0 L n1 n2 pc lv (.int (nI a) :: st) := fun h8 hm8 hw8 hc8 => rn_if_ge C d ht ha (fun c => kt c h8 hm8 hw8 hc8) (fun c => kf c h8 hm8 hw8 hc8)
theorem wn_if_gt (C : cxOk G own cc rm nL x) {off : Int} {tgt a : Nat} (d : dn cc pc (.ifCond .gt off) 3 nx) (ht : (pc : Int) + off = (tgt : Int)) (ha : a < 2147483648) (kt : 0 < a → VL G x h0 L n1 n2 tgt lv (st)) (kf : a = 0 → VL G x h0 L n1 n2 nx lv (st)) : VL G x h0 L n1 n2 pc lv (.int (nI a) :: st) := fun h8 hm8 hw8 hc8 => rn_if_gt C d ht ha (fun c => kt c h8 hm8 hw8 hc8) (fun c => kf c h8 hm8 hw8 hc8)
theorem wn_if_le (C : cxOk G own cc rm nL x) {off : Int} {tgt a : Nat} (d : dn cc pc (.ifCond .le off) 3 nx) (ht : (pc : Int) + off = (tgt : Int)) (ha : a < 2147483648) (kt : a = 0 → VL G x h0 L n1 n2 tgt lv (st)) (kf : 0 < a → VL G x h0 L n1 n2 nx lv (st)) : VL G x h0 L n1 n2 pc lv (.int (nI a) :: st) := fun h8 hm8 hw8 hc8 => rn_if_le C d ht ha (fun c => kt c h8 hm8 hw8 hc8) (fun c => kf c h8 hm8 hw8 hc8)
theorem wb_if_eq (C : cxOk G own cc rm nL x) {off : Int} {tgt : Nat} {b : Bool} (d : dn cc pc (.ifCond .eq off) 3 nx) (ht : (pc : Int) + off = (tgt : Int)) (kt : b = false → VL G x h0 L n1 n2 tgt lv (st)) (kf : b = true → VL G x h0 L n1 n2 nx lv (st)) : VL G x h0 L n1 n2 pc lv (.int (bI b) :: st) := fun h8 hm8 hw8 hc8 => rb_if_eq C d ht (fun c => kt c h8 hm8 hw8 hc8) (fun c => kf c h8 hm8 hw8 hc8)
theorem wb_if_ne (C : cxOk G own cc rm nL x) {off : Int} {tgt : Nat} {b : Bool} (d : dn cc pc (.ifCond .ne off) 3 nx) (ht : (pc : Int) + off = (tgt : Int)) (kt : b = true → VL G x h0 L n1 n2 tgt lv (st)) (kf : b = false → VL G x h0 L n1 n2 nx lv (st)) : VL G x h0 L n1 n2 pc lv (.int (bI b) :: st) := fun h8 hm8 hw8 hc8 => rb_if_ne C d ht (fun c => kt c h8 hm8 hw8 hc8) (fun c => kf c h8 hm8 hw8 hc8)
theorem wn_i2l (C : cxOk G own cc rm nL x) {a : Nat} (d : dn cc pc .i2l 1 nx) (ha : a < 2147483648) (kk : VL G x h0 L n1 n2 nx lv (.long (lN a) :: st)) : VL G x h0 L n1 n2 pc lv (.int (nI a) :: st) := fun h8 hm8 hw8 hc8 => rn_i2l C d ha (kk h8 hm8 hw8 hc8)
theorem wn_l2i (C : cxOk G own cc rm nL x) {a : Nat} (d : dn cc pc .l2i 1 nx) (kk : VL G x h0 L n1 n2 nx lv (.int (nI a) :: st)) : VL G x h0 L n1 n2 pc lv (.long (lN a) :: st) := fun h8 hm8 hw8 hc8 => rn_l2i C d (kk h8 hm8 hw8 hc8)
theorem wn_lshl (C : cxOk G own cc rm nL x) {a b : Nat} (d : dn cc pc .lshl 1 nx) (hb : b < 64) (kk : VL G x h0 L n1 n2 nx lv (.long (lN (a * 2 ^ b)) :: st)) : VL G x h0 L n1 n2 pc lv (.int (nI b) :: .long (lN a) :: st) := fun h8 hm8 hw8 hc8 => rn_lshl C d hb (kk h8 hm8 hw8 hc8)
theorem wn_lshr (C : cxOk G own cc rm nL x) {a b : Nat} (d : dn cc pc .lshr 1 nx) (ha : a < 9223372036854775808) (hb : b < 64) (kk : VL G x h0 L n1 n2 nx lv (.long (lN (a / 2 ^ b)) :: st)) : VL G x h0 L n1 n2 pc lv (.int (nI b) :: .long (lN a) :: st) := fun h8 hm8 hw8 hc8 => rn_lshr C d ha hb (kk h8 hm8 hw8 hc8)
theorem wn_lushr (C : cxOk G own cc rm nL x) {a b : Nat} (d : dn cc pc .lushr 1 nx) (ha : a < 18446744073709551616) (hb : b < 64) (kk : VL G x h0 L n1 n2 nx lv (.long (lN (a / 2 ^ b)) :: st)) : VL G x h0 L n1 n2 pc lv (.int (nI b) :: .long (lN a) :: st) := fun h8 hm8 hw8 hc8 => rn_lushr C d ha hb (kk h8 hm8 hw8 hc8)
theorem wn_land (C : cxOk G own cc rm nL x) {a b : Nat} (d : dn cc pc .land 1 nx) (kk : VL G x h0 L n1 n2 nx lv (.long (lN (a &&& b)) :: st)) : VL G x h0 L n1 n2 pc lv (.long (lN b) :: .long (lN a) :: st) := fun h8 hm8 hw8 hc8 => rn_land C d (kk h8 hm8 hw8 hc8)
theorem wn_lor (C : cxOk G own cc rm nL x) {a b : Nat} (d : dn cc pc .lor 1 nx) (kk : VL G x h0 L n1 n2 nx lv (.long (lN (a ||| b)) :: st)) : VL G x h0 L n1 n2 pc lv (.long (lN b) :: .long (lN a) :: st) := fun h8 hm8 hw8 hc8 => rn_lor C d (kk h8 hm8 hw8 hc8)
theorem wn_lcmp (C : cxOk G own cc rm nL x) {a b : Nat} (d : dn cc pc .lcmp 1 nx) (ha : a < 9223372036854775808) (hb : b < 9223372036854775808) (kk : VL G x h0 L n1 n2 nx lv (.int (lg_cmp (lN a) (lN b)) :: st)) : VL G x h0 L n1 n2 pc lv (.long (lN b) :: .long (lN a) :: st) := fun h8 hm8 hw8 hc8 => rn_lcmp C d ha hb (kk h8 hm8 hw8 hc8)
theorem w_st {st' : List Value} (e : st = st') (kk : VL G x h0 L n1 n2 pc lv st') : VL G x h0 L n1 n2 pc lv st := e ▸ kk
theorem w_lve {lv' : List (Nat × Value)} (e : lv = lv') (kk : VL G x h0 L n1 n2 pc lv' st) : VL G x h0 L n1 n2 pc lv st := e ▸ kk
theorem w_eq {L' : cL} (e : L = L') (kk : VL G x h0 L' n1 n2 pc lv st) : VL G x h0 L n1 n2 pc lv st := e ▸ kk
theorem w_lv {lv' : List (Nat × Value)} (ks : List Nat) (hl2 : lv_pick lv ks = lv') (kk : VL G x h0 L n1 n2 pc lv' st) : VL G x h0 L n1 n2 pc lv st := fun h hm hw hc => r_lv ks hl2 (kk h hm hw hc)
theorem w_wid {k1 k2 : Nat} (a1 : n1 ≤ k1) (a2 : n2 ≤ k2) (kk : VL G x h0 L k1 k2 pc lv st) : VL G x h0 L n1 n2 pc lv st := fun h hm hw hc => r_widen a1 a2 (kk h hm hw hc)
theorem w_get (C : cxOk G own cc rm nL x) {i a ci j : Nat} (z : Nat) {v : Value} {fs : List Value} (d : dn cc pc (.getfield i) 3 nx) (F : fdOk own i ci j) (hz : L[z]? = some (a, oC ci fs)) (hv : fs[j]? = some v) (kk : VL G x h0 L n1 n2 nx lv (v :: st)) : VL G x h0 L n1 n2 pc lv (.ref a :: st) := fun h hm hw hc => r_get C d F (hc.at z hz) hv (kk h hm hw hc)
theorem w_getN (C : cxOk G own cc rm nL x) {i a ci j : Nat} {v : Value} {fs : List Value} (d : dn cc pc (.getfield i) 3 nx) (F : fdOk own i ci j) (hb : h0 a = some (oC ci fs)) (hv : fs[j]? = some v) (kk : VL G x h0 L n1 n2 nx lv (v :: st)) : VL G x h0 L n1 n2 pc lv (.ref a :: st) := fun h hm hw hc => r_get C d F (hm a _ hb) hv (kk h hm hw hc)
theorem w_put (C : cxOk G own cc rm nL x) {i a ci j : Nat} (z : Nat) {v : Value} {ty : FieldType} {fs fs' : List Value} {L' : cL} (d : dn cc pc (.putfield i) 3 nx) (F : pfOk own i ci j ty false) (hz : L[z]? = some (a, oC ci fs)) (hn : narrow ty v = v) (hfit : fits ty v = true) (hlen : j < fs.length) (hs : fs.set j v = fs') (hL : L.set z (a, oC ci fs') = L') (kk : VL G x h0 L' n1 n2 nx lv st) : VL G x h0 L n1 n2 pc lv (v :: .ref a :: st) := fun h hm hw hc => r_put C d F (hc.at z hz) hn hfit hlen hs (by
  subst hL; exact kk _ (hle_set hm (hw.at z hz)) (hw.set hz) (cel.set hw hc hz))
theorem w_putF (C : cxOk G own cc rm nL x) (CI : cxI x) {i a ci j : Nat} (z : Nat) {v : Value} {ty : FieldType} {fs fs' : List Value} {L' : cL} (d : dn cc pc (.putfield i) 3 nx) (F : pfOk own i ci j ty true) (hdecl : ∀ q, vwCl[ci]? = some q → q.1 = own) (hz : L[z]? = some (a, oC ci fs)) (hn : narrow ty v = v) (hfit : fits ty v = true) (hlen : j < fs.length) (hs : fs.set j v = fs') (hL : L.set z (a, oC ci fs') = L') (kk : VL G x h0 L' n1 n2 nx lv st) : VL G x h0 L n1 n2 pc lv (v :: .ref a :: st) := fun h hm hw hc => r_putF C CI d F hdecl (hc.at z hz) hn hfit hlen hs (by
  subst hL; exact kk _ (hle_set hm (hw.at z hz)) (hw.set hz) (cel.set hw hc hz))
theorem w_iald (C : cxOk G own cc rm nL x) {a j n : Nat} (z : Nat) {f : Nat → Int32} (d : dn cc pc .iaload 1 nx) (hz : L[z]? = some (a, aI G n f)) (hj : j < n) (hl : n < 2147483648) (kk : VL G x h0 L n1 n2 nx lv (.int (f j) :: st)) : VL G x h0 L n1 n2 pc lv (.int (nI j) :: .ref a :: st) := fun h hm hw hc => r_iald (f := f) C d (hc.at z hz) hj hl (kk h hm hw hc)
theorem w_ialdN (C : cxOk G own cc rm nL x) {a j n : Nat} {f : Nat → Int32} (d : dn cc pc .iaload 1 nx) (hb : h0 a = some (aI G n f)) (hj : j < n) (hl : n < 2147483648) (kk : VL G x h0 L n1 n2 nx lv (.int (f j) :: st)) : VL G x h0 L n1 n2 pc lv (.int (nI j) :: .ref a :: st) := fun h hm hw hc => r_iald (f := f) C d (hm a _ hb) hj hl (kk h hm hw hc)
theorem w_laldN (C : cxOk G own cc rm nL x) {a j n : Nat} {f : Nat → Int64} (d : dn cc pc .laload 1 nx) (hb : h0 a = some (aJ G n f)) (hj : j < n) (hl : n < 2147483648) (kk : VL G x h0 L n1 n2 nx lv (.long (f j) :: st)) : VL G x h0 L n1 n2 pc lv (.int (nI j) :: .ref a :: st) := fun h hm hw hc => r_lald (f := f) C d (hm a _ hb) hj hl (kk h hm hw hc)
theorem w_aaldN (C : cxOk G own cc rm nL x) {a b j n t : Nat} {CN : String} {f : Nat → Option Nat} (d : dn cc pc .aaload 1 nx) (ht : (tyL G)[t]? = some (G.2.1 t, .object CN)) (hb : h0 a = some (aR G t n f)) (hj : j < n) (hl : n < 2147483648) (hf : f j = some b) (kk : VL G x h0 L n1 n2 nx lv (.ref b :: st)) : VL G x h0 L n1 n2 pc lv (.int (nI j) :: .ref a :: st) := fun h hm hw hc => r_aald (f := f) C d (hm a _ hb) ht hj hl hf (kk h hm hw hc)
theorem w_alenN (C : cxOk G own cc rm nL x) {a n t : Nat} {CN : String} {f : Nat → Option Nat} (d : dn cc pc .arraylength 1 nx) (ht : (tyL G)[t]? = some (G.2.1 t, .object CN)) (hb : h0 a = some (aR G t n f)) (kk : VL G x h0 L n1 n2 nx lv (.int (nI n) :: st)) : VL G x h0 L n1 n2 pc lv (.ref a :: st) := fun h hm hw hc => r_alen C d (hm a _ hb) ht rfl (kk h hm hw hc)
theorem w_alen (C : cxOk G own cc rm nL x) {a n t : Nat} (z : Nat) {CN : String} {f : Nat → Option Nat} (d : dn cc pc .arraylength 1 nx) (ht : (tyL G)[t]? = some (G.2.1 t, .object CN)) (hz : L[z]? = some (a, aR G t n f)) (kk : VL G x h0 L n1 n2 nx lv (.int (nI n) :: st)) : VL G x h0 L n1 n2 pc lv (.ref a :: st) := fun h hm hw hc => r_alen C d (hc.at z hz) ht rfl (kk h hm hw hc)
theorem w_iast (C : cxOk G own cc rm nL x) {a j n : Nat} (z : Nat) {v : Int32} {f : Nat → Int32} {L' : cL} (d : dn cc pc .iastore 1 nx) (hz : L[z]? = some (a, aI G n f)) (hj : j < n) (hl : n < 2147483648) (hL : L.set z (a, aI G n (upd f j v)) = L') (kk : VL G x h0 L' n1 n2 nx lv st) : VL G x h0 L n1 n2 pc lv (.int v :: .int (nI j) :: .ref a :: st) := fun h hm hw hc => r_iast (f := f) C d (hc.at z hz) hj hl (by
  subst hL; exact kk _ (hle_set hm (hw.at z hz)) (hw.set hz) (cel.set hw hc hz))
theorem w_last (C : cxOk G own cc rm nL x) {a j n : Nat} (z : Nat) {v : Int64} {f : Nat → Int64} {L' : cL} (d : dn cc pc .lastore 1 nx) (hz : L[z]? = some (a, aJ G n f)) (hj : j < n) (hl : n < 2147483648) (hL : L.set z (a, aJ G n (vp_updL f j v)) = L') (kk : VL G x h0 L' n1 n2 nx lv st) : VL G x h0 L n1 n2 pc lv (.long v :: .int (nI j) :: .ref a :: st) := fun h hm hw hc => r_last (f := f) C d (hc.at z hz) hj hl (by
  subst hL; exact kk _ (hle_set hm (hw.at z hz)) (hw.set hz) (cel.set hw hc hz))
theorem w_aast (C : cxOk G own cc rm nL x) {a b ci j n t : Nat} (z : Nat) {vs : List Value} {r : vw_C} {f : Nat → Option Nat} {L' : cL} (d : dn cc pc .aastore 1 nx) (ht : (tyL G)[t]? = some (G.2.1 t, .object r.1)) (hz : L[z]? = some (a, aR G t n f)) (hb : h0 b = some (oC ci vs)) (hcl : vwCl[ci]? = some r) (hj : j < n) (hl : n < 2147483648) (hL : L.set z (a, aR G t n (va_up f j (some b))) = L') (kk : VL G x h0 L' n1 n2 nx lv st) : VL G x h0 L n1 n2 pc lv (.ref b :: .int (nI j) :: .ref a :: st) := fun h hm hw hc => r_aast (f := f) C d (hc.at z hz) ht (hm b _ hb) hcl hj hl (by
  subst hL; exact kk _ (hle_set hm (hw.at z hz)) (hw.set hz) (cel.set hw hc hz))
theorem w_new (C : cxOk G own cc rm nL x) {i ci N : Nat} {fs : List Value} (d : dn cc pc (.new i) 3 nx) (F : nwOk own i ci fs N) (hc1 : n1 + 1 ≤ rm.cells) (hc2 : n2 + N ≤ rm.slots) (kk : ∀ q, VL G x h0 ((q, oC ci fs) :: L) (n1 + 1) (n2 + N) nx lv (.ref q :: st)) : VL G x h0 L n1 n2 pc lv st := fun h hm hw hc => r_new C d F hc1 hc2 (fun q hq _ => kk q _ (hle_tr hm (hle.new hq)) (hw.cons hc hm hq) (hc.cons hq))
theorem w_newI (C : cxOk G own cc rm nL x) {n : Nat} (d : dn cc pc (.newarray .int) 2 nx) (hw1 : Cond.arrayClass .int ∈ TB) (hn : n < 134217728) (hc1 : n1 + 1 ≤ rm.cells) (hc2 : n2 + n ≤ rm.slots) (kk : ∀ q, VL G x h0 ((q, aI G n (fun _ => 0)) :: L) (n1 + 1) (n2 + n) nx lv (.ref q :: st)) : VL G x h0 L n1 n2 pc lv (.int (nI n) :: st) := fun h hm hw hc => r_newI C d hw1 hn hc1 hc2 (fun q hq _ => kk q _ (hle_tr hm (hle.new hq)) (hw.cons hc hm hq) (hc.cons hq))
theorem w_newJ (C : cxOk G own cc rm nL x) {n : Nat} (d : dn cc pc (.newarray .long) 2 nx) (hw1 : Cond.arrayClass .long ∈ TB) (hn : n < 67108864) (hc1 : n1 + 1 ≤ rm.cells) (hc2 : n2 + n ≤ rm.slots) (kk : ∀ q, VL G x h0 ((q, aJ G n (fun _ => 0)) :: L) (n1 + 1) (n2 + n) nx lv (.ref q :: st)) : VL G x h0 L n1 n2 pc lv (.int (nI n) :: st) := fun h hm hw hc => r_newJ C d hw1 hn hc1 hc2 (fun q hq _ => kk q _ (hle_tr hm (hle.new hq)) (hw.cons hc hm hq) (hc.cons hq))
theorem w_newR (C : cxOk G own cc rm nL x) {n i t : Nat} {CN : String} (d : dn cc pc (.anewarray i) 3 nx) (hw1 : Cond.classLink own i CN ∈ TB) (hao : ∀ U, gK G U → va_AO CN U) (ht : (tyL G)[t]? = some (G.2.1 t, .object CN)) (hn : n < 134217728) (hc1 : n1 + 1 ≤ rm.cells) (hc2 : n2 + n ≤ rm.slots) (kk : ∀ q, VL G x h0 ((q, aR G t n (fun _ => none)) :: L) (n1 + 1) (n2 + n) nx lv (.ref q :: st)) : VL G x h0 L n1 n2 pc lv (.int (nI n) :: st) := fun h hm hw hc => r_newR C d hw1 hao ht hn hc1 hc2 (fun q hq _ => kk q _ (hle_tr hm (hle.new hq)) (hw.cons hc hm hq) (hc.cons hq))
theorem w_obj (C : cxOk G own cc rm nL x) {i a : Nat} (d : dn cc pc (.invokespecial i) 3 nx) (hw1 : Cond.methodLink own i objectInit ∈ TB) (hw2 : Cond.instanceMethod objectInit ∈ TB) (hw3 : Cond.code objectInit ⟨#[0xb1]⟩ 1 none ∈ TB) (hf : 1 ≤ rm.frames) (hlo : (st.map fun v => v.category).sum + 12 ≤ rm.locals) (kk : VL G x h0 L n1 n2 nx lv st) : VL G x h0 L n1 n2 pc lv (.ref a :: st) := fun h hm hw hc => r_obj C d hw1 hw2 hw3 hf hlo (kk h hm hw hc)
end LROWS
section LCALLS
variable {G : eG} {x : CX} {h0 : hp} {L M L0 : cL} {n1 n2 mc ms : Nat} {pc nx : Nat} {lv : List (Nat × Value)} {st rest : List Value} {own : String} {cc b : ByteArray} {rm R0 : Room} {nL maxL i n : Nat} {y : MethodName} {ret : Option FieldType} {As : List Value} {post : Option Value → cL → Prop}
theorem w_iret (C : cxOk G own cc rm nL x) {v : Int32} {ty : FieldType} (A : kEndL G x h0 mc ms post) (T2 : cxT (some ty) x) (d : dn cc pc .ireturn 1 nx) (hn : narrow ty (.int v) = .int v) (h1 : n1 ≤ mc) (h2 : n2 ≤ ms) (e : post (some (.int v)) L) : VL G x h0 L n1 n2 pc lv [.int v] := fun h hm hw hc => r_iret C A T2 d hn h1 h2 ⟨L, e, hm, hw, hc⟩
theorem w_vret (C : cxOk G own cc rm nL x) (A : kEndL G x h0 mc ms post) (T2 : cxT none x) (d : dn cc pc .return_ 1 nx) (h1 : n1 ≤ mc) (h2 : n2 ≤ ms) (e : post none L) : VL G x h0 L n1 n2 pc lv [] := fun h hm hw hc => r_vret C A T2 d h1 h2 ⟨L, e, hm, hw, hc⟩
theorem w_aret (C : cxOk G own cc rm nL x) {v : Nat} {CN : String} (A : kEndL G x h0 mc ms post) (T2 : cxT (some (.object CN)) x) (d : dn cc pc .areturn 1 nx) (h1 : n1 ≤ mc) (h2 : n2 ≤ ms) (e : post (some (.ref v)) L) : VL G x h0 L n1 n2 pc lv [.ref v] := fun h hm hw hc => r_aret C A T2 d h1 h2 ⟨L, e, hm, hw, hc⟩
theorem w_callS (C : cxOk G own cc R0 nL x) (d : dn cc pc (.invokestatic i) 3 nx) (F : okS own i y b maxL ret n) (hL : L0 = L ++ M) (K : ∀ l h1, hle h0 h1 → cel M h1 → kL l G h1 L y b maxL ret rm As post) (hn : As.length = n) (hst : st = As.reverse ++ rest) (hcat : (rest.map fun v => v.category).sum ≤ 8) (hR : rmIn rm R0 maxL n1 n2)
    (kk : ∀ v L', post v L' → VL G x h0 (L' ++ M) (n1 + rm.cells) (n2 + rm.slots) nx lv (v.toList ++ rest)) : VL G x h0 L0 n1 n2 pc lv st := fun h hm hw hc => by
  subst hL
  exact r_callS C d F (fun l _ => K l (hno L h) (hle.hno hm hw) (cel.right hw hc) h hno_le (nwl.left hw) hc.left) hn hst hcat hR (fun v h' ⟨L', e, q9, r9, s9⟩ => (fun ⟨a, w, c⟩ => kk v L' e h' a w c) (frame_out hm hw hc q9 r9 s9))
theorem w_callV (C : cxOk G own cc R0 nL x) (d : dn cc pc (.invokevirtual i) 3 nx) (F : okV own i y b maxL ret n) (hL : L0 = L ++ M) {a ci : Nat} {fs : List Value} {r : vw_C} (K : ∀ l h1, hle h0 h1 → cel M h1 → kL l G h1 L y b maxL ret rm (.ref a :: As) post) (he : ∀ h, hle h0 h → cel L0 h → h a = some (oC ci fs)) (hcl : vwCl[ci]? = some r) (hcy : r.1 = y.cls) (hn : As.length = n) (hst : st = As.reverse ++ .ref a :: rest) (hcat : (rest.map fun v => v.category).sum ≤ 8) (hR : rmIn rm R0 maxL n1 n2)
    (kk : ∀ v L', post v L' → VL G x h0 (L' ++ M) (n1 + rm.cells) (n2 + rm.slots) nx lv (v.toList ++ rest)) : VL G x h0 L0 n1 n2 pc lv st := fun h hm hw hc => by
  have hea := he h hm hc
  subst hL
  exact r_callV C d F (fun l _ => K l (hno L h) (hle.hno hm hw) (cel.right hw hc) h hno_le (nwl.left hw) hc.left) hea hcl hcy hn hst hcat hR (fun v h' ⟨L', e, q9, r9, s9⟩ => (fun ⟨a, w, c⟩ => kk v L' e h' a w c) (frame_out hm hw hc q9 r9 s9))
theorem w_callI (C : cxOk G own cc R0 nL x) (d : dn cc pc (.invokespecial i) 3 nx) (F : okI own i y b maxL n) (hL : L0 = L ++ M) {a : Nat} (K : ∀ l h1, hle h0 h1 → cel M h1 → kL l G h1 L y b maxL none rm (.ref a :: As) post) (hn : As.length = n) (hst : st = As.reverse ++ .ref a :: rest) (hcat : (rest.map fun v => v.category).sum ≤ 8) (hR : rmIn rm R0 maxL n1 n2)
    (kk : ∀ v L', post v L' → VL G x h0 (L' ++ M) (n1 + rm.cells) (n2 + rm.slots) nx lv (v.toList ++ rest)) : VL G x h0 L0 n1 n2 pc lv st := fun h hm hw hc => by
  subst hL
  exact r_callI C d F (fun l _ => K l (hno L h) (hle.hno hm hw) (cel.right hw hc) h hno_le (nwl.left hw) hc.left) hn hst hcat hR (fun v h' ⟨L', e, q9, r9, s9⟩ => (fun ⟨a, w, c⟩ => kk v L' e h' a w c) (frame_out hm hw hc q9 r9 s9))
theorem w_callN (C : cxOk G own cc R0 nL x) (d : dn cc pc (.invokespecial i) 3 nx) (F : okN own i y b maxL n) (hL : L0 = L ++ M) {a : Nat} (K : ∀ l h1, hle h0 h1 → cel M h1 → kL l G h1 L y b maxL none rm (.ref a :: As) post) (hn : As.length = n) (hst : st = As.reverse ++ .ref a :: rest) (hcat : (rest.map fun v => v.category).sum ≤ 8) (hR : rmIn rm R0 maxL n1 n2)
    (kk : ∀ v L', post v L' → VL G x h0 (L' ++ M) (n1 + rm.cells) (n2 + rm.slots) nx lv (v.toList ++ rest)) : VL G x h0 L0 n1 n2 pc lv st := fun h hm hw hc => by
  subst hL
  exact r_callN C d F (fun l _ => K l (hno L h) (hle.hno hm hw) (cel.right hw hc) h hno_le (nwl.left hw) hc.left) hn hst hcat hR (fun v h' ⟨L', e, q9, r9, s9⟩ => (fun ⟨a, w, c⟩ => kk v L' e h' a w c) (frame_out hm hw hc q9 r9 s9))
theorem w_callP (C : cxOk G own cc R0 nL x) (d : dn cc pc (.invokestatic i) 3 nx) (F : okS own i y b maxL ret n) {r : Option Value} (M : sC y b maxL ret rm As r) (hn : As.length = n) (hst : st = As.reverse ++ rest) (hcat : (rest.map fun v => v.category).sum ≤ 8) (hR : rmIn rm R0 maxL n1 n2)
    (kk : VL G x h0 L (n1 + rm.cells) (n2 + rm.slots) nx lv (r.toList ++ rest)) : VL G x h0 L n1 n2 pc lv st := fun h hm hw hc => r_callS C d F (fun l _ => M l G h) hn hst hcat hR (fun v h' ⟨e, e2⟩ => by subst e; subst e2; exact kk _ hm hw hc)
end LCALLS
