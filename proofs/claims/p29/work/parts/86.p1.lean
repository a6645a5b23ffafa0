/-! p29's world: the class and the law's counts (naturals, at ad 101 0); a budget of cells, eight slots each -/
theorem lnk.mvN {G : eG} {ad : Nat → Nat → Nat} {h h' : hp} {g : mS} {T : Nat → tC3} {X Y : Nat → pA} (k : lnk G ad h g T X Y) (c : ∀ a e, nr ad a → h a = some e → h' a = some e) : lnk G ad h' g T X Y := by
  have tm : ∀ {a s lb : Nat} {P : Nat → Nat}, tst G ad h a P s lb → tst G ad h' a P s lb := fun ⟨na, p, np, ha, hp⟩ => ⟨na, p, np, c _ _ na ha, c _ _ np hp⟩
  have pm : ∀ {a : Nat} {x : pA} {is : Bool}, prA G ad h a x is → prA G ad h' a x is := fun ⟨na, pt, pn, n1, n2, h1, h2, h3⟩ => ⟨na, pt, pn, n1, n2, c _ _ na h1, c _ _ n1 h2, c _ _ n2 h3⟩
  have km : ∀ {p a1 : Nat} {y : pA} {is : Bool}, pk1 G ad h g T p a1 y is → pk1 G ad h' g T p a1 y is := fun k => ⟨k.1, pm k.2.1, fun j hj => tm (k.2.2.1 j hj), k.2.2.2⟩
  exact ⟨fun i hi => km (k.1 i hi), fun p hp => (fun ⟨is, q⟩ => ⟨is, km q⟩) (k.2 p hp)⟩
def uF (f : Nat → Nat) (i v : Nat) : Nat → Nat := fun j => if j = i then v else f j
theorem uF_s {f : Nat → Nat} {i v : Nat} : uF f i v i = v := if_pos rfl
theorem uF_n {f : Nat → Nat} {i j v : Nat} (h : j ≠ i) : uF f i v j = f j := if_neg h
def pw (G : eG) (ad : Nat → Nat → Nat) (g : mS) (f : Nat → Nat) (h : hp) : Prop := (co G ad g h ∧ h (ad 101 0) = some (aI G 21 (fun i => nI (f i))) ∧ nrw ad (ad 101 0)) ∧ AI g ∧ ∃ T X Y, lnk G ad h g T X Y
theorem pw_next {G : eG} {ad : Nat → Nat → Nat} {g g9 S' : mS} {f : Nat → Nat} {h h9 : hp} (w : pw G ad g f h) (F : cfr ad h h9) (m : co G ad g9 h9) (k : stpO G ad h9 S' g9) : pw G ad (mrg S' g9) f h9 := ⟨⟨co_mrg m k.1, F _ _ w.1.2.2 w.1.2.1, w.1.2.2⟩, k.2.1, k.2.2.imp (fun T ⟨X, Y, q⟩ => ⟨X, Y, q⟩)⟩
theorem pw_same {G : eG} {ad : Nat → Nat → Nat} {g : mS} {f : Nat → Nat} {h h9 : hp} (w : pw G ad g f h) (F : cfr ad h h9) (m : co G ad g h9) : pw G ad g f h9 := by
  obtain ⟨⟨_, w2, w3⟩, A, T, X, Y, k⟩ := w
  exact ⟨⟨m, F _ _ w3 w2, w3⟩, A, T, X, Y, k.mv F⟩
theorem pw_put {G : eG} {ad : Nat → Nat → Nat} {g : mS} {f : Nat → Nat} {h : hp} {i v : Nat} (w : pw G ad g f h) : pw G ad g (uF f i v) (hup h (ad 101 0) (aI G 21 (upd (fun i => nI (f i)) i (nI v)))) := by
  obtain ⟨⟨m, w2, w3⟩, A, T, X, Y, k⟩ := w
  refine ⟨⟨⟨fun k i hk => ?_, m.2.1, fun k i => ?_⟩, ?_, w3⟩, A, T, X, Y, k.mvN (fun a e n z => by rw [hup_n (n 101 0)]; exact z)⟩
  · rw [hup_n (fun z => w3 k i hk z.symm)]; exact m.1 k i hk
  · by_cases e : ad k i = ad 101 0
    · exact ⟨_, by rw [e]; exact hup_s⟩
    · rw [hup_n e]; exact m.2.2 k i
  · rw [hup_s]
    congr 4
    funext j
    unfold upd uF
    by_cases e : j = i
    · rw [if_pos e, if_pos e]
    · rw [if_neg e, if_neg e]
def VP (G : eG) (x : CX) (ad : Nat → Nat → Nat) (g : mS) (f : Nat → Nat) (R : Room) (B pc : Nat) (lv : List (Nat × Value)) (st : List Value) : Prop := ∀ h n1 n2, pw G ad g f h → n1 + B ≤ R.cells → n2 + 8 * B ≤ R.slots → VV G x n1 n2 h pc lv st
def pX (x : CX) : Prop := ∀ l, cxL l x → l.stackTraces = false
theorem cxL_eq {l l' : Launch} {x : CX} (a : cxL l x) (b : cxL l' x) : l' = l := by
  obtain ⟨p, l0, e, R, s, m, args, below, meth, c, Q, n⟩ := x
  exact (show l0 = l' from b).symm.trans (show l0 = l from a)
theorem cxL_ex (x : CX) : ∃ l, cxL l x := by
  obtain ⟨p, l0, e, R, s, m, args, below, meth, c, Q, n⟩ := x
  exact ⟨l0, rfl⟩
/-! contracts of the class's methods over the ghost state: what the call answers and its new state; throws leave the state -/
def kQ (l : Launch) (G : eG) (ad : Nat → Nat → Nat) (g : mS) (h : hp) (y : MethodName) (b : ByteArray) (nL : Nat) (ret : Option FieldType) (rm : Room) (As : List Value) (Q : Option Value → mS → Prop) (XQ : String → Prop) : Prop := ∃ (post : Option Value → mS → hp → Prop) (xp : String → mS → Prop), kX l G ad h y b nL ret rm (.ref (ad 0 0) :: As) post xp ∧ (∀ E g', xp E g' → XQ E ∧ g' = g) ∧ ∀ v g9 h9, post v g9 h9 → cfr ad h h9 → ∃ S', stpO G ad h9 S' g9 ∧ Q v (mrg S' g9)
def kR (l : Launch) (G : eG) (ad : Nat → Nat → Nat) (g : mS) (h : hp) (y : MethodName) (b : ByteArray) (nL : Nat) (ret : Option FieldType) (rm : Room) (As : List Value) (Q : Option Value → mS → Prop) : Prop := ∃ (post : Option Value → mS → hp → Prop), kC l G ad h y b nL ret rm (.ref (ad 0 0) :: As) post ∧ ∀ v g9 h9, post v g9 h9 → cfr ad h h9 → ∃ S', stpO G ad h9 S' g9 ∧ Q v (mrg S' g9)
/-- a method of the law -/
def kW (l : Launch) (G : eG) (ad : Nat → Nat → Nat) (g : mS) (f : Nat → Nat) (y : MethodName) (b : ByteArray) (nL : Nat) (ret : Option FieldType) (rm : Room) (av : List Value) (Q : Option Value → mS → (Nat → Nat) → Prop) : Prop := ∀ h, pw G ad g f h → MC l G y b nL ret rm av h (fun v h' => ∃ g' f', Q v g' f' ∧ pw G ad g' f' h')
def kWH (l : Launch) (G : eG) (ad : Nat → Nat → Nat) (g : mS) (f : Nat → Nat) (y : MethodName) (b : ByteArray) (nL : Nat) (ret : Option FieldType) (hd : List (Nat × Nat × Nat × Nat)) (rm : Room) (av : List Value) (Q : Option Value → mS → (Nat → Nat) → Prop) : Prop := ∀ h, pw G ad g f h → MH l G y b nL ret hd rm av h (fun v h' => ∃ g' f', Q v g' f' ∧ pw G ad g' f' h')
def pEnd (G : eG) (x : CX) (ad : Nat → Nat → Nat) (R : Room) (Q : Option Value → mS → (Nat → Nat) → Prop) : Prop := cxR G (fun v h' => ∃ g' f', Q v g' f' ∧ pw G ad g' f' h') R.cells R.slots x
theorem MC.ofL {l : Launch} {G : eG} {y : MethodName} {b : ByteArray} {nL : Nat} {ret : Option FieldType} {rm : Room} {av : List Value} {h : hp} {post : Option Value → hp → Prop} (hy : plainName y.cls = true) (hlen : (lg_sl av).length ≤ nL)
    (body : ∀ x, cxL l x → cxOk G y.cls b rm nL x → cxR G post rm.cells rm.slots x → cxT ret x → VV G x 0 0 h 0 (lv_args 0 av) []) : MC l G y b nL ret rm av h post := by
  refine Met.ofW (cc := b) (maxL := nL) (ret := ret) hy rfl ?_
  intro p e s m args below meth c s₁ B hml hv
  obtain ⟨rfl, hH0, hK0, hZ0⟩ := hv
  have hts := atoms_spec (ws := wsy y b nL ret) B.pre
  have hown : s.vm.findClass y.cls = some m.cls := findClass_of_methodNamed B.named
  rw [lg_entry_eq]
  exact body (p, l, e, _, s, m, av.toArray, below, meth, c, _, nL) rfl ⟨B.exec, B.bytes, hml, hown, fun w hw => hts w (List.mem_cons_of_mem _ hw), hK0, hZ0, B.notSynchronized, rfl, rfl, hH0.1⟩ (fun H locs g k => k) B.returns s.heap [] _ hH0 va_S.rf (lv_entry av hlen)
theorem MH.ofL {l : Launch} {G : eG} {y : MethodName} {b : ByteArray} {nL : Nat} {ret : Option FieldType} {hd : List (Nat × Nat × Nat × Nat)} {rm : Room} {av : List Value} {h : hp} {post : Option Value → hp → Prop} (hy : plainName y.cls = true) (hlen : (lg_sl av).length ≤ nL)
    (body : ∀ x, cxL l x → cxOk G y.cls b rm nL x → cxR G post rm.cells rm.slots x → cxT ret x → cxH hd x → VV G x 0 0 h 0 (lv_args 0 av) []) : MH l G y b nL ret hd rm av h post := by
  refine vx_ofWH (cc := b) (maxL := nL) (ret := ret) (hh := hd) hy rfl ?_
  intro p e s m args below meth c s₁ B hml hv
  obtain ⟨rfl, hH0, hK0, hZ0⟩ := hv
  have hts := atoms_spec (ws := wsh y b nL ret hd) B.pre
  have hown : s.vm.findClass y.cls = some m.cls := findClass_of_methodNamed B.named
  have htab := vx_table (x := y) B (hts (.codeWith y b nL ret hd) List.mem_cons_self)
  rw [lg_entry_eq]
  exact body (p, l, e, _, s, m, av.toArray, below, meth, c, _, nL) rfl ⟨B.exec, B.bytes, hml, hown, fun w hw => hts w (List.mem_cons_of_mem _ hw), hK0, hZ0, B.notSynchronized, rfl, rfl, hH0.1⟩ (fun H locs g k => vx_ret k) B.returns htab s.heap [] _ hH0 va_S.rf (lv_entry av hlen)
theorem kW.of {l : Launch} {G : eG} {ad : Nat → Nat → Nat} {g : mS} {f : Nat → Nat} {y : MethodName} {b : ByteArray} {nL : Nat} {ret : Option FieldType} {rm : Room} {av : List Value} {Q : Option Value → mS → (Nat → Nat) → Prop} (hlf : l.stackTraces = false) (hy : plainName y.cls = true) (hlen : (lg_sl av).length ≤ nL) (hs : 8 * rm.cells ≤ rm.slots)
    (body : ∀ x, pX x → cxOk G y.cls b rm nL x → pEnd G x ad rm Q → cxT ret x → VP G x ad g f rm rm.cells 0 (lv_args 0 av) []) : kW l G ad g f y b nL ret rm av Q := fun h w =>
  MC.ofL hy hlen (fun x L C A T => body x (fun l' L' => by rw [cxL_eq L L']; exact hlf) C A T h 0 0 w (by omega) (by omega))
theorem kWH.of {l : Launch} {G : eG} {ad : Nat → Nat → Nat} {g : mS} {f : Nat → Nat} {y : MethodName} {b : ByteArray} {nL : Nat} {ret : Option FieldType} {hd : List (Nat × Nat × Nat × Nat)} {rm : Room} {av : List Value} {Q : Option Value → mS → (Nat → Nat) → Prop} (hlf : l.stackTraces = false) (hy : plainName y.cls = true) (hlen : (lg_sl av).length ≤ nL) (hs : 8 * rm.cells ≤ rm.slots)
    (body : ∀ x, pX x → cxOk G y.cls b rm nL x → pEnd G x ad rm Q → cxT ret x → cxH hd x → VP G x ad g f rm rm.cells 0 (lv_args 0 av) []) : kWH l G ad g f y b nL ret hd rm av Q := fun h w =>
  MH.ofL hy hlen (fun x L C A T H => body x (fun l' L' => by rw [cxL_eq L L']; exact hlf) C A T H h 0 0 w (by omega) (by omega))

section PROWS
variable {G : eG} {x : CX} {ad : Nat → Nat → Nat} {g : mS} {f : Nat → Nat} {B : Nat} {pc nx : Nat} {lv : List (Nat × Value)} {st : List Value} {own : String} {cc : ByteArray} {rm : Room} {nL : Nat}
theorem p_iconst (C : cxOk G own cc rm nL x) {i : Int} {v : Int32} (d : dn cc pc (.iconst i) 1 nx) (hv : Int32.ofInt i = v) (kk : VP G x ad g f rm B nx lv (.int v :: st)) : VP G x ad g f rm B pc lv (st) := fun h n1 n2 w w1 w2 => r_iconst C d hv (kk h n1 n2 w w1 w2)
theorem p_bipush (C : cxOk G own cc rm nL x) {i : Int} {v : Int32} (d : dn cc pc (.bipush i) 2 nx) (hv : (Int8.ofInt i).toInt32 = v) (kk : VP G x ad g f rm B nx lv (.int v :: st)) : VP G x ad g f rm B pc lv (st) := fun h n1 n2 w w1 w2 => r_bipush C d hv (kk h n1 n2 w w1 w2)
theorem p_sipush (C : cxOk G own cc rm nL x) {i : Int} {v : Int32} (d : dn cc pc (.sipush i) 3 nx) (hv : (Int16.ofInt i).toInt32 = v) (kk : VP G x ad g f rm B nx lv (.int v :: st)) : VP G x ad g f rm B pc lv (st) := fun h n1 n2 w w1 w2 => r_sipush C d hv (kk h n1 n2 w w1 w2)
theorem p_lconst (C : cxOk G own cc rm nL x) {i : Fin 2} {v : Int64} (d : dn cc pc (.lconst i) 1 nx) (hv : Int64.ofNat (i : Nat) = v) (kk : VP G x ad g f rm B nx lv (.long v :: st)) : VP G x ad g f rm B pc lv (st) := fun h n1 n2 w w1 w2 => r_lconst C d hv (kk h n1 n2 w w1 w2)
theorem p_null (C : cxOk G own cc rm nL x) (d : dn cc pc (.aconst_null) 1 nx)  (kk : VP G x ad g f rm B nx lv (.null :: st)) : VP G x ad g f rm B pc lv (st) := fun h n1 n2 w w1 w2 => r_null C d (kk h n1 n2 w w1 w2)
theorem p_ldc (C : cxOk G own cc rm nL x) {i : Nat} {v : Int32} (d : dn cc pc (.ldc i) 2 nx) (hc : Jvm.Cond.constant own i v ∈ TB) (kk : VP G x ad g f rm B nx lv (.int v :: st)) : VP G x ad g f rm B pc lv (st) := fun h n1 n2 w w1 w2 => r_ldc C d hc (kk h n1 n2 w w1 w2)
theorem p_ldc2 (C : cxOk G own cc rm nL x) {i : Nat} {v : Int64} (d : dn cc pc (.ldc2_w i) 3 nx) (hc : Jvm.Cond.constantLong own i v ∈ TB) (kk : VP G x ad g f rm B nx lv (.long v :: st)) : VP G x ad g f rm B pc lv (st) := fun h n1 n2 w w1 w2 => r_ldc2 C d hc (kk h n1 n2 w w1 w2)
theorem p_iload_n (C : cxOk G own cc rm nL x) {i : Fin 4} {v : Int32} (d : dn cc pc (.iload_n i) 1 nx) (j : Nat) (hk : lv[j]? = some ((i : Nat), .int v)) (kk : VP G x ad g f rm B nx lv (.int v :: st)) : VP G x ad g f rm B pc lv (st) := fun h n1 n2 w w1 w2 => r_iload_n C d j hk (kk h n1 n2 w w1 w2)
theorem p_iload (C : cxOk G own cc rm nL x) {i : Nat} {v : Int32} (d : dn cc pc (.iload i) 2 nx) (j : Nat) (hk : lv[j]? = some (i, .int v)) (kk : VP G x ad g f rm B nx lv (.int v :: st)) : VP G x ad g f rm B pc lv (st) := fun h n1 n2 w w1 w2 => r_iload C d j hk (kk h n1 n2 w w1 w2)
theorem p_lload_n (C : cxOk G own cc rm nL x) {i : Fin 4} {v : Int64} (d : dn cc pc (.lload_n i) 1 nx) (j : Nat) (hk : lv[j]? = some ((i : Nat), .long v)) (kk : VP G x ad g f rm B nx lv (.long v :: st)) : VP G x ad g f rm B pc lv (st) := fun h n1 n2 w w1 w2 => r_lload_n C d j hk (kk h n1 n2 w w1 w2)
theorem p_lload (C : cxOk G own cc rm nL x) {i : Nat} {v : Int64} (d : dn cc pc (.lload i) 2 nx) (j : Nat) (hk : lv[j]? = some (i, .long v)) (kk : VP G x ad g f rm B nx lv (.long v :: st)) : VP G x ad g f rm B pc lv (st) := fun h n1 n2 w w1 w2 => r_lload C d j hk (kk h n1 n2 w w1 w2)
theorem p_aload_n (C : cxOk G own cc rm nL x) {i : Fin 4} {v : Nat} (d : dn cc pc (.aload_n i) 1 nx) (j : Nat) (hk : lv[j]? = some ((i : Nat), .ref v)) (kk : VP G x ad g f rm B nx lv (.ref v :: st)) : VP G x ad g f rm B pc lv (st) := fun h n1 n2 w w1 w2 => r_aload_n C d j hk (kk h n1 n2 w w1 w2)
theorem p_aload (C : cxOk G own cc rm nL x) {i : Nat} {v : Nat} (d : dn cc pc (.aload i) 2 nx) (j : Nat) (hk : lv[j]? = some (i, .ref v)) (kk : VP G x ad g f rm B nx lv (.ref v :: st)) : VP G x ad g f rm B pc lv (st) := fun h n1 n2 w w1 w2 => r_aload C d j hk (kk h n1 n2 w w1 w2)
theorem p_istore_n (C : cxOk G own cc rm nL x) {i : Fin 4} {v : Int32} (d : dn cc pc (.istore_n i) 1 nx) {lv' : List (Nat × Value)} (hn : (i : Nat) < nL) (hl2 : ((i : Nat), Value.int v) :: lv.filter (fun q => !(q.1 == (i : Nat)) && !(q.1 + 1 == (i : Nat) && q.2.category == 2)) = lv') (kk : VP G x ad g f rm B nx lv' (st)) : VP G x ad g f rm B pc lv (.int v :: st) := fun h n1 n2 w w1 w2 => r_istore_n C d hn hl2 (kk h n1 n2 w w1 w2)
theorem p_istore (C : cxOk G own cc rm nL x) {i : Nat} {v : Int32} (d : dn cc pc (.istore i) 2 nx) {lv' : List (Nat × Value)} (hn : i < nL) (hl2 : (i, Value.int v) :: lv.filter (fun q => !(q.1 == i) && !(q.1 + 1 == i && q.2.category == 2)) = lv') (kk : VP G x ad g f rm B nx lv' (st)) : VP G x ad g f rm B pc lv (.int v :: st) := fun h n1 n2 w w1 w2 => r_istore C d hn hl2 (kk h n1 n2 w w1 w2)
theorem p_astore_n (C : cxOk G own cc rm nL x) {i : Fin 4} {v : Nat} (d : dn cc pc (.astore_n i) 1 nx) {lv' : List (Nat × Value)} (hn : (i : Nat) < nL) (hl2 : ((i : Nat), Value.ref v) :: lv.filter (fun q => !(q.1 == (i : Nat)) && !(q.1 + 1 == (i : Nat) && q.2.category == 2)) = lv') (kk : VP G x ad g f rm B nx lv' (st)) : VP G x ad g f rm B pc lv (.ref v :: st) := fun h n1 n2 w w1 w2 => r_astore_n C d hn hl2 (kk h n1 n2 w w1 w2)
theorem p_astore (C : cxOk G own cc rm nL x) {i : Nat} {v : Nat} (d : dn cc pc (.astore i) 2 nx) {lv' : List (Nat × Value)} (hn : i < nL) (hl2 : (i, Value.ref v) :: lv.filter (fun q => !(q.1 == i) && !(q.1 + 1 == i && q.2.category == 2)) = lv') (kk : VP G x ad g f rm B nx lv' (st)) : VP G x ad g f rm B pc lv (.ref v :: st) := fun h n1 n2 w w1 w2 => r_astore C d hn hl2 (kk h n1 n2 w w1 w2)
theorem p_lstore_n (C : cxOk G own cc rm nL x) {i : Fin 4} {v : Int64} (d : dn cc pc (.lstore_n i) 1 nx) {lv' : List (Nat × Value)} (hn : (i : Nat) + 1 < nL) (hl2 : ((i : Nat), Value.long v) :: lv.filter (fun q => !(q.1 == (i : Nat)) && (!(q.1 == (i : Nat) + 1) && !(q.1 + 1 == (i : Nat) && q.2.category == 2))) = lv') (kk : VP G x ad g f rm B nx lv' (st)) : VP G x ad g f rm B pc lv (.long v :: st) := fun h n1 n2 w w1 w2 => r_lstore_n C d hn hl2 (kk h n1 n2 w w1 w2)
theorem p_lstore (C : cxOk G own cc rm nL x) {i : Nat} {v : Int64} (d : dn cc pc (.lstore i) 2 nx) {lv' : List (Nat × Value)} (hn : i + 1 < nL) (hl2 : (i, Value.long v) :: lv.filter (fun q => !(q.1 == i) && (!(q.1 == i + 1) && !(q.1 + 1 == i && q.2.category == 2))) = lv') (kk : VP G x ad g f rm B nx lv' (st)) : VP G x ad g f rm B pc lv (.long v :: st) := fun h n1 n2 w w1 w2 => r_lstore C d hn hl2 (kk h n1 n2 w w1 w2)
theorem p_iinc (C : cxOk G own cc rm nL x) {i : Nat} {k : Int} {a v : Int32} (d : dn cc pc (.iinc i k) 3 nx) {lv' : List (Nat × Value)} (j : Nat) (hk : lv[j]? = some (i, .int a)) (hv : a + Int32.ofInt k = v) (hn : i < nL) (hl2 : (i, Value.int v) :: lv.filter (fun q => !(q.1 == i) && !(q.1 + 1 == i && q.2.category == 2)) = lv') (kk : VP G x ad g f rm B nx lv' (st)) : VP G x ad g f rm B pc lv (st) := fun h n1 n2 w w1 w2 => r_iinc C d j hk hv hn hl2 (kk h n1 n2 w w1 w2)
theorem p_iadd (C : cxOk G own cc rm nL x) {a b : Int32} (d : dn cc pc (.iadd) 1 nx)  (kk : VP G x ad g f rm B nx lv (.int (a + b) :: st)) : VP G x ad g f rm B pc lv (.int b :: .int a :: st) := fun h n1 n2 w w1 w2 => r_iadd C d (kk h n1 n2 w w1 w2)
theorem p_isub (C : cxOk G own cc rm nL x) {a b : Int32} (d : dn cc pc (.isub) 1 nx)  (kk : VP G x ad g f rm B nx lv (.int (a - b) :: st)) : VP G x ad g f rm B pc lv (.int b :: .int a :: st) := fun h n1 n2 w w1 w2 => r_isub C d (kk h n1 n2 w w1 w2)
theorem p_imul (C : cxOk G own cc rm nL x) {a b : Int32} (d : dn cc pc (.imul) 1 nx)  (kk : VP G x ad g f rm B nx lv (.int (a * b) :: st)) : VP G x ad g f rm B pc lv (.int b :: .int a :: st) := fun h n1 n2 w w1 w2 => r_imul C d (kk h n1 n2 w w1 w2)
theorem p_iand (C : cxOk G own cc rm nL x) {a b : Int32} (d : dn cc pc (.iand) 1 nx)  (kk : VP G x ad g f rm B nx lv (.int (a &&& b) :: st)) : VP G x ad g f rm B pc lv (.int b :: .int a :: st) := fun h n1 n2 w w1 w2 => r_iand C d (kk h n1 n2 w w1 w2)
theorem p_ior (C : cxOk G own cc rm nL x) {a b : Int32} (d : dn cc pc (.ior) 1 nx)  (kk : VP G x ad g f rm B nx lv (.int (a ||| b) :: st)) : VP G x ad g f rm B pc lv (.int b :: .int a :: st) := fun h n1 n2 w w1 w2 => r_ior C d (kk h n1 n2 w w1 w2)
theorem p_ixor (C : cxOk G own cc rm nL x) {a b : Int32} (d : dn cc pc (.ixor) 1 nx)  (kk : VP G x ad g f rm B nx lv (.int (a ^^^ b) :: st)) : VP G x ad g f rm B pc lv (.int b :: .int a :: st) := fun h n1 n2 w w1 w2 => r_ixor C d (kk h n1 n2 w w1 w2)
theorem p_ishl (C : cxOk G own cc rm nL x) {a b : Int32} (d : dn cc pc (.ishl) 1 nx)  (kk : VP G x ad g f rm B nx lv (.int (a <<< (b &&& 31)) :: st)) : VP G x ad g f rm B pc lv (.int b :: .int a :: st) := fun h n1 n2 w w1 w2 => r_ishl C d (kk h n1 n2 w w1 w2)
theorem p_ishr (C : cxOk G own cc rm nL x) {a b : Int32} (d : dn cc pc (.ishr) 1 nx)  (kk : VP G x ad g f rm B nx lv (.int (a >>> (b &&& 31)) :: st)) : VP G x ad g f rm B pc lv (.int b :: .int a :: st) := fun h n1 n2 w w1 w2 => r_ishr C d (kk h n1 n2 w w1 w2)
theorem p_iushr (C : cxOk G own cc rm nL x) {a b : Int32} (d : dn cc pc (.iushr) 1 nx)  (kk : VP G x ad g f rm B nx lv (.int (a.toUInt32 >>> (b.toUInt32 &&& Int32.toUInt32 31)).toInt32 :: st)) : VP G x ad g f rm B pc lv (.int b :: .int a :: st) := fun h n1 n2 w w1 w2 => r_iushr C d (kk h n1 n2 w w1 w2)
theorem p_idiv (C : cxOk G own cc rm nL x) {a b : Int32} (d : dn cc pc (.idiv) 1 nx) (hb : ¬ b = 0) (kk : VP G x ad g f rm B nx lv (.int (a / b) :: st)) : VP G x ad g f rm B pc lv (.int b :: .int a :: st) := fun h n1 n2 w w1 w2 => r_idiv C d hb (kk h n1 n2 w w1 w2)
theorem p_irem (C : cxOk G own cc rm nL x) {a b : Int32} (d : dn cc pc (.irem) 1 nx) (hb : ¬ b = 0) (kk : VP G x ad g f rm B nx lv (.int (a - a / b * b) :: st)) : VP G x ad g f rm B pc lv (.int b :: .int a :: st) := fun h n1 n2 w w1 w2 => r_irem C d hb (kk h n1 n2 w w1 w2)
theorem p_ineg (C : cxOk G own cc rm nL x) {a : Int32} (d : dn cc pc (.ineg) 1 nx)  (kk : VP G x ad g f rm B nx lv (.int (-a) :: st)) : VP G x ad g f rm B pc lv (.int a :: st) := fun h n1 n2 w w1 w2 => r_ineg C d (kk h n1 n2 w w1 w2)
theorem p_ladd (C : cxOk G own cc rm nL x) {a b : Int64} (d : dn cc pc (.ladd) 1 nx)  (kk : VP G x ad g f rm B nx lv (.long (a + b) :: st)) : VP G x ad g f rm B pc lv (.long b :: .long a :: st) := fun h n1 n2 w w1 w2 => r_ladd C d (kk h n1 n2 w w1 w2)
theorem p_land (C : cxOk G own cc rm nL x) {a b : Int64} (d : dn cc pc (.land) 1 nx)  (kk : VP G x ad g f rm B nx lv (.long (a &&& b) :: st)) : VP G x ad g f rm B pc lv (.long b :: .long a :: st) := fun h n1 n2 w w1 w2 => r_land C d (kk h n1 n2 w w1 w2)
theorem p_lor (C : cxOk G own cc rm nL x) {a b : Int64} (d : dn cc pc (.lor) 1 nx)  (kk : VP G x ad g f rm B nx lv (.long (a ||| b) :: st)) : VP G x ad g f rm B pc lv (.long b :: .long a :: st) := fun h n1 n2 w w1 w2 => r_lor C d (kk h n1 n2 w w1 w2)
theorem p_lxor (C : cxOk G own cc rm nL x) {a b : Int64} (d : dn cc pc (.lxor) 1 nx)  (kk : VP G x ad g f rm B nx lv (.long (a ^^^ b) :: st)) : VP G x ad g f rm B pc lv (.long b :: .long a :: st) := fun h n1 n2 w w1 w2 => r_lxor C d (kk h n1 n2 w w1 w2)
theorem p_lushr (C : cxOk G own cc rm nL x) {a : Int64} {b : Int32} (d : dn cc pc (.lushr) 1 nx)  (kk : VP G x ad g f rm B nx lv (.long (a.toUInt64 >>> (b.toInt64.toUInt64 &&& Int64.toUInt64 63)).toInt64 :: st)) : VP G x ad g f rm B pc lv (.int b :: .long a :: st) := fun h n1 n2 w w1 w2 => r_lushr C d (kk h n1 n2 w w1 w2)
theorem p_lshl (C : cxOk G own cc rm nL x) {a : Int64} {b : Int32} (d : dn cc pc (.lshl) 1 nx)  (kk : VP G x ad g f rm B nx lv (.long (a <<< (b.toInt64 &&& 63)) :: st)) : VP G x ad g f rm B pc lv (.int b :: .long a :: st) := fun h n1 n2 w w1 w2 => r_lshl C d (kk h n1 n2 w w1 w2)
theorem p_lshr (C : cxOk G own cc rm nL x) {a : Int64} {b : Int32} (d : dn cc pc (.lshr) 1 nx)  (kk : VP G x ad g f rm B nx lv (.long (a >>> (b.toInt64 &&& 63)) :: st)) : VP G x ad g f rm B pc lv (.int b :: .long a :: st) := fun h n1 n2 w w1 w2 => r_lshr C d (kk h n1 n2 w w1 w2)
theorem p_lcmp (C : cxOk G own cc rm nL x) {a b : Int64} (d : dn cc pc (.lcmp) 1 nx)  (kk : VP G x ad g f rm B nx lv (.int (lg_cmp a b) :: st)) : VP G x ad g f rm B pc lv (.long b :: .long a :: st) := fun h n1 n2 w w1 w2 => r_lcmp C d (kk h n1 n2 w w1 w2)
theorem p_i2l (C : cxOk G own cc rm nL x) {a : Int32} (d : dn cc pc (.i2l) 1 nx)  (kk : VP G x ad g f rm B nx lv (.long a.toInt64 :: st)) : VP G x ad g f rm B pc lv (.int a :: st) := fun h n1 n2 w w1 w2 => r_i2l C d (kk h n1 n2 w w1 w2)
theorem p_l2i (C : cxOk G own cc rm nL x) {a : Int64} (d : dn cc pc (.l2i) 1 nx)  (kk : VP G x ad g f rm B nx lv (.int a.toInt32 :: st)) : VP G x ad g f rm B pc lv (.long a :: st) := fun h n1 n2 w w1 w2 => r_l2i C d (kk h n1 n2 w w1 w2)
theorem p_dup (C : cxOk G own cc rm nL x) {v : Value} (d : dn cc pc (.dup) 1 nx) (hv : v.category = 1) (kk : VP G x ad g f rm B nx lv (v :: v :: st)) : VP G x ad g f rm B pc lv (v :: st) := fun h n1 n2 w w1 w2 => r_dup C d hv (kk h n1 n2 w w1 w2)
theorem p_pop (C : cxOk G own cc rm nL x) {v : Value} (d : dn cc pc (.pop) 1 nx) (hv : v.category = 1) (kk : VP G x ad g f rm B nx lv (st)) : VP G x ad g f rm B pc lv (v :: st) := fun h n1 n2 w w1 w2 => r_pop C d hv (kk h n1 n2 w w1 w2)
theorem p_dup2 (C : cxOk G own cc rm nL x) {v w : Value} (d : dn cc pc (.dup2) 1 nx) (hv : v.category = 1) (hw : w.category = 1) (kk : VP G x ad g f rm B nx lv (v :: w :: v :: w :: st)) : VP G x ad g f rm B pc lv (v :: w :: st) := fun h n1 n2 w w1 w2 => r_dup2 C d hv hw (kk h n1 n2 w w1 w2)
theorem p_if_eq (C : cxOk G own cc rm nL x) {off : Int} {tgt : Nat} {a : Int32} (d : dn cc pc (.ifCond .eq off) 3 nx) (ht : (pc : Int) + off = (tgt : Int)) (kt : a = 0 → VP G x ad g f rm B tgt lv (st)) (kf : ¬ (a = 0) → VP G x ad g f rm B nx lv (st)) : VP G x ad g f rm B pc lv (.int a :: st) := fun h n1 n2 w w1 w2 => r_if_eq C d ht (fun c => kt c h n1 n2 w w1 w2) (fun c => kf c h n1 n2 w w1 w2)
theorem p_if_ne (C : cxOk G own cc rm nL x) {off : Int} {tgt : Nat} {a : Int32} (d : dn cc pc (.ifCond .ne off) 3 nx) (ht : (pc : Int) + off = (tgt : Int)) (kt : ¬ a = 0 → VP G x ad g f rm B tgt lv (st)) (kf : ¬ (¬ a = 0) → VP G x ad g f rm B nx lv (st)) : VP G x ad g f rm B pc lv (.int a :: st) := fun h n1 n2 w w1 w2 => r_if_ne C d ht (fun c => kt c h n1 n2 w w1 w2) (fun c => kf c h n1 n2 w w1 w2)
theorem p_if_lt (C : cxOk G own cc rm nL x) {off : Int} {tgt : Nat} {a : Int32} (d : dn cc pc (.ifCond .lt off) 3 nx) (ht : (pc : Int) + off = (tgt : Int)) (kt : a < 0 → VP G x ad g f rm B tgt lv (st)) (kf : ¬ (a < 0) → VP G x ad g f rm B nx lv (st)) : VP G x ad g f rm B pc lv (.int a :: st) := fun h n1 n2 w w1 w2 => r_if_lt C d ht (fun c => kt c h n1 n2 w w1 w2) (fun c => kf c h n1 n2 w w1 w2)
theorem p_if_ge (C : cxOk G own cc rm nL x) {off : Int} {tgt : Nat} {a : Int32} (d : dn cc pc (.ifCond .ge off) 3 nx) (ht : (pc : Int) + off = (tgt : Int)) (kt : 0 ≤ a → VP G x ad g f rm B tgt lv (st)) (kf : ¬ (0 ≤ a) → VP G x ad g f rm B nx lv (st)) : VP G x ad g f rm B pc lv (.int a :: st) := fun h n1 n2 w w1 w2 => r_if_ge C d ht (fun c => kt c h n1 n2 w w1 w2) (fun c => kf c h n1 n2 w w1 w2)
theorem p_if_gt (C : cxOk G own cc rm nL x) {off : Int} {tgt : Nat} {a : Int32} (d : dn cc pc (.ifCond .gt off) 3 nx) (ht : (pc : Int) + off = (tgt : Int)) (kt : 0 < a → VP G x ad g f rm B tgt lv (st)) (kf : ¬ (0 < a) → VP G x ad g f rm B nx lv (st)) : VP G x ad g f rm B pc lv (.int a :: st) := fun h n1 n2 w w1 w2 => r_if_gt C d ht (fun c => kt c h n1 n2 w w1 w2) (fun c => kf c h n1 n2 w w1 w2)
theorem p_if_le (C : cxOk G own cc rm nL x) {off : Int} {tgt : Nat} {a : Int32} (d : dn cc pc (.ifCond .le off) 3 nx) (ht : (pc : Int) + off = (tgt : Int)) (kt : a ≤ 0 → VP G x ad g f rm B tgt lv (st)) (kf : ¬ (a ≤ 0) → VP G x ad g f rm B nx lv (st)) : VP G x ad g f rm B pc lv (.int a :: st) := fun h n1 n2 w w1 w2 => r_if_le C d ht (fun c => kt c h n1 n2 w w1 w2) (fun c => kf c h n1 n2 w w1 w2)
theorem p_icmp_eq (C : cxOk G own cc rm nL x) {off : Int} {tgt : Nat} {a b : Int32} (d : dn cc pc (.if_icmp .eq off) 3 nx) (ht : (pc : Int) + off = (tgt : Int)) (kt : a = b → VP G x ad g f rm B tgt lv (st)) (kf : ¬ (a = b) → VP G x ad g f rm B nx lv (st)) : VP G x ad g f rm B pc lv (.int b :: .int a :: st) := fun h n1 n2 w w1 w2 => r_icmp_eq C d ht (fun c => kt c h n1 n2 w w1 w2) (fun c => kf c h n1 n2 w w1 w2)
theorem p_icmp_ne (C : cxOk G own cc rm nL x) {off : Int} {tgt : Nat} {a b : Int32} (d : dn cc pc (.if_icmp .ne off) 3 nx) (ht : (pc : Int) + off = (tgt : Int)) (kt : ¬ a = b → VP G x ad g f rm B tgt lv (st)) (kf : ¬ (¬ a = b) → VP G x ad g f rm B nx lv (st)) : VP G x ad g f rm B pc lv (.int b :: .int a :: st) := fun h n1 n2 w w1 w2 => r_icmp_ne C d ht (fun c => kt c h n1 n2 w w1 w2) (fun c => kf c h n1 n2 w w1 w2)
theorem p_icmp_lt (C : cxOk G own cc rm nL x) {off : Int} {tgt : Nat} {a b : Int32} (d : dn cc pc (.if_icmp .lt off) 3 nx) (ht : (pc : Int) + off = (tgt : Int)) (kt : a < b → VP G x ad g f rm B tgt lv (st)) (kf : ¬ (a < b) → VP G x ad g f rm B nx lv (st)) : VP G x ad g f rm B pc lv (.int b :: .int a :: st) := fun h n1 n2 w w1 w2 => r_icmp_lt C d ht (fun c => kt c h n1 n2 w w1 w2) (fun c => kf c h n1 n2 w w1 w2)
theorem p_icmp_ge (C : cxOk G own cc rm nL x) {off : Int} {tgt : Nat} {a b : Int32} (d : dn cc pc (.if_icmp .ge off) 3 nx) (ht : (pc : Int) + off = (tgt : Int)) (kt : b ≤ a → VP G x ad g f rm B tgt lv (st)) (kf : ¬ (b ≤ a) → VP G x ad g f rm B nx lv (st)) : VP G x ad g f rm B pc lv (.int b :: .int a :: st) := fun h n1 n2 w w1 w2 => r_icmp_ge C d ht (fun c => kt c h n1 n2 w w1 w2) (fun c => kf c h n1 n2 w w1 w2)
theorem p_icmp_gt (C : cxOk G own cc rm nL x) {off : Int} {tgt : Nat} {a b : Int32} (d : dn cc pc (.if_icmp .gt off) 3 nx) (ht : (pc : Int) + off = (tgt : Int)) (kt : b < a → VP G x ad g f rm B tgt lv (st)) (kf : ¬ (b < a) → VP G x ad g f rm B nx lv (st)) : VP G x ad g f rm B pc lv (.int b :: .int a :: st) := fun h n1 n2 w w1 w2 => r_icmp_gt C d ht (fun c => kt c h n1 n2 w w1 w2) (fun c => kf c h n1 n2 w w1 w2)
theorem p_icmp_le (C : cxOk G own cc rm nL x) {off : Int} {tgt : Nat} {a b : Int32} (d : dn cc pc (.if_icmp .le off) 3 nx) (ht : (pc : Int) + off = (tgt : Int)) (kt : a ≤ b → VP G x ad g f rm B tgt lv (st)) (kf : ¬ (a ≤ b) → VP G x ad g f rm B nx lv (st)) : VP G x ad g f rm B pc lv (.int b :: .int a :: st) := fun h n1 n2 w w1 w2 => r_icmp_le C d ht (fun c => kt c h n1 n2 w w1 w2) (fun c => kf c h n1 n2 w w1 w2)
theorem p_goto (C : cxOk G own cc rm nL x) {off : Int} {tgt : Nat} (d : dn cc pc (.goto off) 3 nx) (ht : (pc : Int) + off = (tgt : Int)) (kk : VP G x ad g f rm B tgt lv (st)) : VP G x ad g f rm B pc lv (st) := fun h n1 n2 w w1 w2 => r_goto C d ht (kk h n1 n2 w w1 w2)
theorem pn_iadd (C : cxOk G own cc rm nL x) {a b : Nat} (d : dn cc pc .iadd 1 nx) (kk : VP G x ad g f rm B nx lv (.int (nI (a + b)) :: st)) : VP G x ad g f rm B pc lv (.int (nI b) :: .int (nI a) :: st) := fun h n1 n2 w w1 w2 => rn_iadd C d (kk h n1 n2 w w1 w2)
theorem pn_isub (C : cxOk G own cc rm nL x) {a b : Nat} (d : dn cc pc .isub 1 nx) (hle : b ≤ a) (kk : VP G x ad g f rm B nx lv (.int (nI (a - b)) :: st)) : VP G x ad g f rm B pc lv (.int (nI b) :: .int (nI a) :: st) := fun h n1 n2 w w1 w2 => rn_isub C d hle (kk h n1 n2 w w1 w2)
theorem pn_imul (C : cxOk G own cc rm nL x) {a b : Nat} (d : dn cc pc .imul 1 nx) (kk : VP G x ad g f rm B nx lv (.int (nI (a * b)) :: st)) : VP G x ad g f rm B pc lv (.int (nI b) :: .int (nI a) :: st) := fun h n1 n2 w w1 w2 => rn_imul C d (kk h n1 n2 w w1 w2)
theorem pn_idiv (C : cxOk G own cc rm nL x) {a b : Nat} (d : dn cc pc .idiv 1 nx) (ha : a < 2147483648) (hz : 0 < b) (hb : b < 2147483648) (kk : VP G x ad g f rm B nx lv (.int (nI (a / b)) :: st)) : VP G x ad g f rm B pc lv (.int (nI b) :: .int (nI a) :: st) := fun h n1 n2 w w1 w2 => rn_idiv C d ha hz hb (kk h n1 n2 w w1 w2)
theorem pn_irem (C : cxOk G own cc rm nL x) {a b : Nat} (d : dn cc pc .irem 1 nx) (ha : a < 2147483648) (hz : 0 < b) (hb : b < 2147483648) (kk : VP G x ad g f rm B nx lv (.int (nI (a % b)) :: st)) : VP G x ad g f rm B pc lv (.int (nI b) :: .int (nI a) :: st) := fun h n1 n2 w w1 w2 => rn_irem C d ha hz hb (kk h n1 n2 w w1 w2)
theorem pn_iand (C : cxOk G own cc rm nL x) {a b : Nat} (d : dn cc pc .iand 1 nx) (kk : VP G x ad g f rm B nx lv (.int (nI (a &&& b)) :: st)) : VP G x ad g f rm B pc lv (.int (nI b) :: .int (nI a) :: st) := fun h n1 n2 w w1 w2 => rn_iand C d (kk h n1 n2 w w1 w2)
theorem pn_ior (C : cxOk G own cc rm nL x) {a b : Nat} (d : dn cc pc .ior 1 nx) (kk : VP G x ad g f rm B nx lv (.int (nI (a ||| b)) :: st)) : VP G x ad g f rm B pc lv (.int (nI b) :: .int (nI a) :: st) := fun h n1 n2 w w1 w2 => rn_ior C d (kk h n1 n2 w w1 w2)
theorem pn_ishl (C : cxOk G own cc rm nL x) {a b : Nat} (d : dn cc pc .ishl 1 nx) (hb : b < 32) (kk : VP G x ad g f rm B nx lv (.int (nI (a * 2 ^ b)) :: st)) : VP G x ad g f rm B pc lv (.int (nI b) :: .int (nI a) :: st) := fun h n1 n2 w w1 w2 => rn_ishl C d hb (kk h n1 n2 w w1 w2)
theorem pn_ishr (C : cxOk G own cc rm nL x) {a b : Nat} (d : dn cc pc .ishr 1 nx) (ha : a < 2147483648) (hb : b < 32) (kk : VP G x ad g f rm B nx lv (.int (nI (a / 2 ^ b)) :: st)) : VP G x ad g f rm B pc lv (.int (nI b) :: .int (nI a) :: st) := fun h n1 n2 w w1 w2 => rn_ishr C d ha hb (kk h n1 n2 w w1 w2)
theorem pn_iushr (C : cxOk G own cc rm nL x) {a b : Nat} (d : dn cc pc .iushr 1 nx) (ha : a < 4294967296) (hb : b < 32) (kk : VP G x ad g f rm B nx lv (.int (nI (a / 2 ^ b)) :: st)) : VP G x ad g f rm B pc lv (.int (nI b) :: .int (nI a) :: st) := fun h n1 n2 w w1 w2 => rn_iushr C d ha hb (kk h n1 n2 w w1 w2)
theorem pn_iinc (C : cxOk G own cc rm nL x) {i a b : Nat} {k : Int} {lv' : List (Nat × Value)} (d : dn cc pc (.iinc i k) 3 nx) (j : Nat) (hk : lv[j]? = some (i, .int (nI a))) (hv : nI a + Int32.ofInt k = nI b) (hn : i < nL) (hl2 : (i, Value.int (nI b)) :: lv.filter (fun q => !(q.1 == i) && !(q.1 + 1 == i && q.2.category == 2)) = lv') (kk : VP G x ad g f rm B nx lv' (st)) : VP G x ad g f rm B pc lv (st) := fun h n1 n2 w w1 w2 => rn_iinc C d j hk hv hn hl2 (kk h n1 n2 w w1 w2)
theorem pn_icmp_eq (C : cxOk G own cc rm nL x) {off : Int} {tgt a b : Nat} (d : dn cc pc (.if_icmp .eq off) 3 nx) (ht : (pc : Int) + off = (tgt : Int)) (ha : a < 2147483648) (hb : b < 2147483648) (kt : a = b → VP G x ad g f rm B tgt lv (st)) (kf : ¬ a = b → VP G x ad g f rm B nx lv (st)) : VP G x ad g f rm B pc lv (.int (nI b) :: .int (nI a) :: st) := fun h n1 n2 w w1 w2 => rn_icmp_eq C d ht ha hb (fun c => kt c h n1 n2 w w1 w2) (fun c => kf c h n1 n2 w w1 w2)
theorem pn_icmp_ne (C : cxOk G own cc rm nL x) {off : Int} {tgt a b : Nat} (d : dn cc pc (.if_icmp .ne off) 3 nx) (ht : (pc : Int) + off = (tgt : Int)) (ha : a < 2147483648) (hb : b < 2147483648) (kt : ¬ a = b → VP G x ad g f rm B tgt lv (st)) (kf : a = b → VP G x ad g f rm B nx lv (st)) : VP G x ad g f rm B pc lv (.int (nI b) :: .int (nI a) :: st) := fun h n1 n2 w w1 w2 => rn_icmp_ne C d ht ha hb (fun c => kt c h n1 n2 w w1 w2) (fun c => kf c h n1 n2 w w1 w2)
theorem pn_icmp_lt (C : cxOk G own cc rm nL x) {off : Int} {tgt a b : Nat} (d : dn cc pc (.if_icmp .lt off) 3 nx) (ht : (pc : Int) + off = (tgt : Int)) (ha : a < 2147483648) (hb : b < 2147483648) (kt : a < b → VP G x ad g f rm B tgt lv (st)) (kf : b ≤ a → VP G x ad g f rm B nx lv (st)) : VP G x ad g f rm B pc lv (.int (nI b) :: .int (nI a) :: st) := fun h n1 n2 w w1 w2 => rn_icmp_lt C d ht ha hb (fun c => kt c h n1 n2 w w1 w2) (fun c => kf c h n1 n2 w w1 w2)
theorem pn_icmp_ge (C : cxOk G own cc rm nL x) {off : Int} {tgt a b : Nat} (d : dn cc pc (.if_icmp .ge off) 3 nx) (ht : (pc : Int) + off = (tgt : Int)) (ha : a < 2147483648) (hb : b < 2147483648) (kt : b ≤ a → VP G x ad g f rm B tgt lv (st)) (kf : a < b → VP G x ad g f rm B nx lv (st)) : VP G x ad g f rm B pc lv (.int (nI b) :: .int (nI a) :: st) := fun h n1 n2 w w1 w2 => rn_icmp_ge C d ht ha hb (fun c => kt c h n1 n2 w w1 w2) (fun c => kf c h n1 n2 w w1 w2)
theorem pn_icmp_gt (C : cxOk G own cc rm nL x) {off : Int} {tgt a b : Nat} (d : dn cc pc (.if_icmp .gt off) 3 nx) (ht : (pc : Int) + off = (tgt : Int)) (ha : a < 2147483648) (hb : b < 2147483648) (kt : b < a → VP G x ad g f rm B tgt lv (st)) (kf : a ≤ b → VP G x ad g f rm B nx lv (st)) : VP G x ad g f rm B pc lv (.int (nI b) :: .int (nI a) :: st) := fun h n1 n2 w w1 w2 => rn_icmp_gt C d ht ha hb (fun c => kt c h n1 n2 w w1 w2) (fun c => kf c h n1 n2 w w1 w2)
theorem pn_icmp_le (C : cxOk G own cc rm nL x) {off : Int} {tgt a b : Nat} (d : dn cc pc (.if_icmp .le off) 3 nx) (ht : (pc : Int) + off = (tgt : Int)) (ha : a < 2147483648) (hb : b < 2147483648) (kt : a ≤ b → VP G x ad g f rm B tgt lv (st)) (kf : b < a → VP G x ad g f rm B nx lv (st)) : VP G x ad g f rm B pc lv (.int (nI b) :: .int (nI a) :: st) := fun h n1 n2 w w1 w2 => rn_icmp_le C d ht ha hb (fun c => kt c h n1 n2 w w1 w2) (fun c => kf c h n1 n2 w w1 w2)
theorem pn_if_eq (C : cxOk G own cc rm nL x) {off : Int} {tgt a : Nat} (d : dn cc pc (.ifCond .eq off) 3 nx) (ht : (pc : Int) + off = (tgt : Int)) (ha : a < 2147483648) (kt : a = 0 → VP G x ad g f rm B tgt lv (st)) (kf : 0 < a → VP G x ad g f rm B nx lv (st)) : VP G x ad g f rm B pc lv (.int (nI a) :: st) := fun h n1 n2 w w1 w2 => rn_if_eq C d ht ha (fun c => kt c h n1 n2 w w1 w2) (fun c => kf c h n1 n2 w w1 w2)
theorem pn_if_ne (C : cxOk G own cc rm nL x) {off : Int} {tgt a : Nat} (d : dn cc pc (.ifCond .ne off) 3 nx) (ht : (pc : Int) + off = (tgt : Int)) (ha : a < 2147483648) (kt : 0 < a → VP G x ad g f rm B tgt lv (st)) (kf : a = 0 → VP G x ad g f rm B nx lv (st)) : VP G x ad g f rm B pc lv (.int (nI a) :: st) := fun h n1 n2 w w1 w2 => rn_if_ne C d ht ha (fun c => kt c h n1 n2 w w1 w2) (fun c => kf c h n1 n2 w w1 w2)
theorem pn_if_lt (C : cxOk G own cc rm nL x) {off : Int} {tgt a : Nat} (d : dn cc pc (.ifCond .lt off) 3 nx) (ht : (pc : Int) + off = (tgt : Int)) (ha : a < 2147483648) (kt : False → VP G x ad g f rm B tgt lv (st)) (kf : True → VP G x ad g f rm B nx lv (st)) : VP G x ad g f rm B pc lv (.int (nI a) :: st) := fun h n1 n2 w w1 w2 => rn_if_lt C d ht ha (fun c => kt c h n1 n2 w w1 w2) (fun c => kf c h n1 n2 w w1 w2)
theorem pn_if_ge (C : cxOk G own cc rm nL x) {off : Int} {tgt a : Nat} (d : dn cc pc (.ifCond .ge off) 3 nx) (ht : (pc : Int) + off = (tgt : Int)) (ha : a < 2147483648) (kt : True → VP G x ad g f rm B tgt lv (st)) (kf : False → VP G x ad g f rm B nx lv (st)) : VP G x ad g f rm B pc lv (.int (nI a) :: st) := fun h n1 n2 w w1 w2 => rn_if_ge C d ht ha (fun c => kt c h n1 n2 w w1 w2) (fun c => kf c h n1 n2 w w1 w2)
theorem pn_if_gt (C : cxOk G own cc rm nL x) {off : Int} {tgt a : Nat} (d : dn cc pc (.ifCond .gt off) 3 nx) (ht : (pc : Int) + off = (tgt : Int)) (ha : a < 2147483648) (kt : 0 < a → VP G x ad g f rm B tgt lv (st)) (kf : a = 0 → VP G x ad g f rm B nx lv (st)) : VP G x ad g f rm B pc lv (.int (nI a) :: st) := fun h n1 n2 w w1 w2 => rn_if_gt C d ht ha (fun c => kt c h n1 n2 w w1 w2) (fun c => kf c h n1 n2 w w1 w2)
theorem pn_if_le (C : cxOk G own cc rm nL x) {off : Int} {tgt a : Nat} (d : dn cc pc (.ifCond .le off) 3 nx) (ht : (pc : Int) + off = (tgt : Int)) (ha : a < 2147483648) (kt : a = 0 → VP G x ad g f rm B tgt lv (st)) (kf : 0 < a → VP G x ad g f rm B nx lv (st)) : VP G x ad g f rm B pc lv (.int (nI a) :: st) := fun h n1 n2 w w1 w2 => rn_if_le C d ht ha (fun c => kt c h n1 n2 w w1 w2) (fun c => kf c h n1 n2 w w1 w2)
theorem pb_if_eq (C : cxOk G own cc rm nL x) {off : Int} {tgt : Nat} {b : Bool} (d : dn cc pc (.ifCond .eq off) 3 nx) (ht : (pc : Int) + off = (tgt : Int)) (kt : b = false → VP G x ad g f rm B tgt lv (st)) (kf : b = true → VP G x ad g f rm B nx lv (st)) : VP G x ad g f rm B pc lv (.int (bI b) :: st) := fun h n1 n2 w w1 w2 => rb_if_eq C d ht (fun c => kt c h n1 n2 w w1 w2) (fun c => kf c h n1 n2 w w1 w2)
theorem pb_if_ne (C : cxOk G own cc rm nL x) {off : Int} {tgt : Nat} {b : Bool} (d : dn cc pc (.ifCond .ne off) 3 nx) (ht : (pc : Int) + off = (tgt : Int)) (kt : b = true → VP G x ad g f rm B tgt lv (st)) (kf : b = false → VP G x ad g f rm B nx lv (st)) : VP G x ad g f rm B pc lv (.int (bI b) :: st) := fun h n1 n2 w w1 w2 => rb_if_ne C d ht (fun c => kt c h n1 n2 w w1 w2) (fun c => kf c h n1 n2 w w1 w2)
theorem pn_i2l (C : cxOk G own cc rm nL x) {a : Nat} (d : dn cc pc .i2l 1 nx) (ha : a < 2147483648) (kk : VP G x ad g f rm B nx lv (.long (lN a) :: st)) : VP G x ad g f rm B pc lv (.int (nI a) :: st) := fun h n1 n2 w w1 w2 => rn_i2l C d ha (kk h n1 n2 w w1 w2)
theorem pn_l2i (C : cxOk G own cc rm nL x) {a : Nat} (d : dn cc pc .l2i 1 nx) (kk : VP G x ad g f rm B nx lv (.int (nI a) :: st)) : VP G x ad g f rm B pc lv (.long (lN a) :: st) := fun h n1 n2 w w1 w2 => rn_l2i C d (kk h n1 n2 w w1 w2)
theorem pn_lshl (C : cxOk G own cc rm nL x) {a b : Nat} (d : dn cc pc .lshl 1 nx) (hb : b < 64) (kk : VP G x ad g f rm B nx lv (.long (lN (a * 2 ^ b)) :: st)) : VP G x ad g f rm B pc lv (.int (nI b) :: .long (lN a) :: st) := fun h n1 n2 w w1 w2 => rn_lshl C d hb (kk h n1 n2 w w1 w2)
theorem pn_lshr (C : cxOk G own cc rm nL x) {a b : Nat} (d : dn cc pc .lshr 1 nx) (ha : a < 9223372036854775808) (hb : b < 64) (kk : VP G x ad g f rm B nx lv (.long (lN (a / 2 ^ b)) :: st)) : VP G x ad g f rm B pc lv (.int (nI b) :: .long (lN a) :: st) := fun h n1 n2 w w1 w2 => rn_lshr C d ha hb (kk h n1 n2 w w1 w2)
theorem pn_lushr (C : cxOk G own cc rm nL x) {a b : Nat} (d : dn cc pc .lushr 1 nx) (ha : a < 18446744073709551616) (hb : b < 64) (kk : VP G x ad g f rm B nx lv (.long (lN (a / 2 ^ b)) :: st)) : VP G x ad g f rm B pc lv (.int (nI b) :: .long (lN a) :: st) := fun h n1 n2 w w1 w2 => rn_lushr C d ha hb (kk h n1 n2 w w1 w2)
theorem pn_land (C : cxOk G own cc rm nL x) {a b : Nat} (d : dn cc pc .land 1 nx) (kk : VP G x ad g f rm B nx lv (.long (lN (a &&& b)) :: st)) : VP G x ad g f rm B pc lv (.long (lN b) :: .long (lN a) :: st) := fun h n1 n2 w w1 w2 => rn_land C d (kk h n1 n2 w w1 w2)
theorem pn_lor (C : cxOk G own cc rm nL x) {a b : Nat} (d : dn cc pc .lor 1 nx) (kk : VP G x ad g f rm B nx lv (.long (lN (a ||| b)) :: st)) : VP G x ad g f rm B pc lv (.long (lN b) :: .long (lN a) :: st) := fun h n1 n2 w w1 w2 => rn_lor C d (kk h n1 n2 w w1 w2)
theorem pn_lcmp (C : cxOk G own cc rm nL x) {a b : Nat} (d : dn cc pc .lcmp 1 nx) (ha : a < 9223372036854775808) (hb : b < 9223372036854775808) (kk : VP G x ad g f rm B nx lv (.int (lg_cmp (lN a) (lN b)) :: st)) : VP G x ad g f rm B pc lv (.long (lN b) :: .long (lN a) :: st) := fun h n1 n2 w w1 w2 => rn_lcmp C d ha hb (kk h n1 n2 w w1 w2)
variable {rest : List Value} {B' i n maxL : Nat} {y : MethodName} {b : ByteArray} {ret : Option FieldType} {As : List Value} {rmc : Room}
theorem p_lv {lv' : List (Nat × Value)} (ks : List Nat) (hl2 : lv_pick lv ks = lv') (kk : VP G x ad g f rm B pc lv' st) : VP G x ad g f rm B pc lv st := fun h n1 n2 w a b => r_lv ks hl2 (kk h n1 n2 w a b)
theorem p_lve {lv' : List (Nat × Value)} (e : lv = lv') (kk : VP G x ad g f rm B pc lv' st) : VP G x ad g f rm B pc lv st := e ▸ kk
theorem p_st {st' : List Value} (e : st = st') (kk : VP G x ad g f rm B pc lv st') : VP G x ad g f rm B pc lv st := e ▸ kk
theorem p_f {f' : Nat → Nat} (e : f = f') (kk : VP G x ad g f' rm B pc lv st) : VP G x ad g f rm B pc lv st := e ▸ kk
theorem p_B (hB : B' ≤ B) (kk : VP G x ad g f rm B' pc lv st) : VP G x ad g f rm B pc lv st := fun h n1 n2 w a b => kk h n1 n2 w (by omega) (by omega)
/-- what the world knows -/
theorem p_AI (kk : AI g → VP G x ad g f rm B pc lv st) : VP G x ad g f rm B pc lv st := fun h n1 n2 w a b => kk w.2.1 h n1 n2 w a b
theorem p_cld (C : cxOk G own cc rm nL x) (d : dn cc pc .iaload 1 nx) (hi : i < 21) (kk : VP G x ad g f rm B nx lv (.int (nI (f i)) :: st)) : VP G x ad g f rm B pc lv (.int (nI i) :: .ref (ad 101 0) :: st) := fun h n1 n2 w a b => r_iald C d w.1.2.1 hi (by decide) (kk h n1 n2 w a b)
theorem p_cst (C : cxOk G own cc rm nL x) {v : Nat} (d : dn cc pc .iastore 1 nx) (hi : i < 21) (kk : VP G x ad g (uF f i v) rm B nx lv st) : VP G x ad g f rm B pc lv (.int (nI v) :: .int (nI i) :: .ref (ad 101 0) :: st) := fun h n1 n2 w a b => r_iast C d w.1.2.1 hi (by decide) (kk _ n1 n2 (pw_put w) a b)
theorem p_iret (C : cxOk G own cc rm nL x) {v : Int32} {ty : FieldType} {Q : Option Value → mS → (Nat → Nat) → Prop} (A : pEnd G x ad rm Q) (T2 : cxT (some ty) x) (d : dn cc pc .ireturn 1 nx) (hn : narrow ty (.int v) = .int v) (e : Q (some (.int v)) g f) : VP G x ad g f rm B pc lv [.int v] := fun h n1 n2 w a b => r_iret C A T2 d hn (by omega) (by omega) ⟨g, f, e, w⟩
theorem r_callVN (C : cxOk G own cc rm nL x) {h : hp} {n1 n2 a ci : Nat} {post : Option Value → hp → Prop} {xp : String → hp → Prop} (LX : pX x) (d : dn cc pc (.invokevirtual i) 3 nx) (F : okV own i y b maxL ret n) (hM : ∀ l, cxL l x → l.stackTraces = false → MX l G y b maxL ret rmc (.ref a :: As) h post xp) {fs : List Value} {r : vw_C} (he : h a = some (.inr (ci, fs))) (hc : vwCl[ci]? = some r) (hcy : r.1 = y.cls) (hn : As.length = n) (hst : st = As.reverse ++ .ref a :: rest) (hcat : (rest.map fun v => v.category).sum ≤ 8) (hR : rmIn rmc rm maxL n1 n2)
    (hno : ∀ E h', xp E h' → False)
    (kk : ∀ v h', post v h' → VV G x (n1 + rmc.cells) (n2 + rmc.slots) h' nx lv (v.toList ++ rest)) : VV G x n1 n2 h pc lv st := by
  obtain ⟨p, l, e, R, s, m, args, below, meth, c, Q, n'⟩ := x
  obtain ⟨d, rfl⟩ := d
  obtain ⟨f1, f2, f3, f4, f5, f6⟩ := F
  intro H locs ls hh hS hl
  obtain ⟨c1, c2, c3, c4, c5, c6, c7, c8, rfl, rfl, c11⟩ := C
  have cw : CallW R s args own y.cls i y b maxL ret (wsy y b maxL ret) rmc rmc.cells rmc.slots n := ⟨callB_of n c5 (tb_wsy f5) rfl rfl rfl (c5 _ f4) (c5 _ f1) f6 hR.1, c5 _ f2, c5 _ f3⟩
  refine after_callX (vx_runV (As := As) (rest := rest) ⟨c1, c2, c3, c4, c5⟩ (hM l rfl (LX l rfl)) cw ⟨vaPc_blind, by rw [← hcy]; exact rc_of hh c6 he hc, fun U hU hW => ⟨rfl, PW.now hh c6 c7 hS hU hW⟩⟩ rfl hn hl.1 hst (lv_room hcat) d hR.2) hS c11 (fun E ce q9 h' H1 locs1 hx hh1 hS1 g1 g2 g3 => ?_) fun v h' H1 locs1 hp hh1 hS1 => ?_
  · exact (hno E h' hx).elim
  · exact kk v h' hp H1 locs1 ls hh1 hS1 hl
/-- a call of the class that doesn't throw -/
theorem p_callX (C : cxOk G own cc rm nL x) (LX : pX x) (d : dn cc pc (.invokevirtual i) 3 nx) (F : okV own i y b maxL ret n) {Q : Option Value → mS → Prop} {XQ : String → Prop} (M : ∀ l h T X Y, l.stackTraces = false → co G ad g h → AI g → lnk G ad h g T X Y → kQ l G ad g h y b maxL ret rmc As Q XQ) (hx : ∀ E, XQ E → False) (hcy : RX6 = y.cls) (hn : As.length = n) (hst : st = As.reverse ++ .ref (ad 0 0) :: rest) (hcat : (rest.map fun v => v.category).sum ≤ 8) (hR : rmc.frames + 1 ≤ rm.frames ∧ 8 + (maxL + 11) + rmc.locals ≤ rm.locals) (hB : B' + rmc.cells ≤ B ∧ rmc.slots ≤ 8 * rmc.cells)
    (kk : ∀ v g', Q v g' → VP G x ad g' f rm B' nx lv (v.toList ++ rest)) : VP G x ad g f rm B pc lv st := by
  intro h n1 n2 w b1 b2
  obtain ⟨l, hl⟩ := cxL_ex x
  obtain ⟨⟨w1, w2, w3⟩, A, T, X, Y, k⟩ := id w
  obtain ⟨post, xp, m1, m2, m3⟩ := M l h T X Y (LX l hl) w1 A k
  refine r_callVN C LX d F (fun l' e' _ => by rw [cxL_eq hl e']; exact m1) (w1.1 0 0 rfl) rfl hcy hn hst hcat ⟨hR, by omega, by omega⟩ (fun E h' q => ?_) (fun v h' q => ?_)
  · obtain ⟨g', q1, -, -⟩ := q
    exact hx E (m2 E g' q1).1
  · obtain ⟨g9, q1, q2, q3⟩ := q
    obtain ⟨S', q4, q5⟩ := m3 v g9 h' q1 q3
    exact kk v _ q5 h' _ _ (pw_next w q3 q2 q4) (by omega) (by omega)
theorem p_callC (C : cxOk G own cc rm nL x) (d : dn cc pc (.invokevirtual i) 3 nx) (F : okV own i y b maxL ret n) {Q : Option Value → mS → Prop} (M : ∀ l h T X Y, co G ad g h → AI g → lnk G ad h g T X Y → kR l G ad g h y b maxL ret rmc As Q) (hcy : RX6 = y.cls) (hn : As.length = n) (hst : st = As.reverse ++ .ref (ad 0 0) :: rest) (hcat : (rest.map fun v => v.category).sum ≤ 8) (hR : rmc.frames + 1 ≤ rm.frames ∧ 8 + (maxL + 11) + rmc.locals ≤ rm.locals) (hB : B' + rmc.cells ≤ B ∧ rmc.slots ≤ 8 * rmc.cells)
    (kk : ∀ v g', Q v g' → VP G x ad g' f rm B' nx lv (v.toList ++ rest)) : VP G x ad g f rm B pc lv st := by
  intro h n1 n2 w b1 b2
  obtain ⟨l, hl⟩ := cxL_ex x
  obtain ⟨⟨w1, w2, w3⟩, A, T, X, Y, k⟩ := id w
  obtain ⟨post, m1, m3⟩ := M l h T X Y w1 A k
  refine r_callV C d F (fun l' e' => by rw [cxL_eq hl e']; exact m1) (w1.1 0 0 rfl) rfl hcy hn hst hcat ⟨hR, by omega, by omega⟩ (fun v h' q => ?_)
  obtain ⟨g9, q1, q2, q3⟩ := q
  obtain ⟨S', q4, q5⟩ := m3 v g9 h' q1 q3
  exact kk v _ q5 h' _ _ (pw_next w q3 q2 q4) (by omega) (by omega)
/-- a call of the class where a throw is caught -/
theorem p_callH (C : cxOk G own cc rm nL x) (LX : pX x) {hd : List (Nat × Nat × Nat × Nat)} (XH : cxH hd x) (d : dn cc pc (.invokevirtual i) 3 nx) (F : okV own i y b maxL ret n) {Q : Option Value → mS → Prop} {XQ : String → Prop} (M : ∀ l h T X Y, l.stackTraces = false → co G ad g h → AI g → lnk G ad h g T X Y → kQ l G ad g h y b maxL ret rmc As Q XQ) (hcy : RX6 = y.cls) (hn : As.length = n) (hst : st = As.reverse ++ .ref (ad 0 0) :: rest) (hcat : (rest.map fun v => v.category).sum ≤ 8) (hR : rmc.frames + 1 ≤ rm.frames ∧ 8 + (maxL + 11) + rmc.locals ≤ rm.locals) (hB : B' + rmc.cells ≤ B ∧ rmc.slots ≤ 8 * rmc.cells)
    (kx : ∀ E, XQ E → ∃ tgt, caOk hd own pc E tgt ∧ ∀ q, VP G x ad g f rm B' tgt lv [.ref q])
    (kk : ∀ v g', Q v g' → VP G x ad g' f rm B' nx lv (v.toList ++ rest)) : VP G x ad g f rm B pc lv st := by
  intro h n1 n2 w b1 b2
  obtain ⟨l, hl⟩ := cxL_ex x
  obtain ⟨⟨w1, w2, w3⟩, A, T, X, Y, k⟩ := id w
  obtain ⟨post, xp, m1, m2, m3⟩ := M l h T X Y (LX l hl) w1 A k
  obtain ⟨p, l0, e, R, s, m, args, below, meth, c, Q0, n'⟩ := x
  obtain rfl : l0 = l := hl
  obtain ⟨d, rfl⟩ := d
  obtain ⟨f1, f2, f3, f4, f5, f6⟩ := F
  intro H locs ls hh hS hl
  obtain ⟨c1, c2, c3, c4, c5, c6, c7, c8, rfl, rfl, c11⟩ := C
  have cw : CallW R s args own y.cls i y b maxL ret (wsy y b maxL ret) rmc rmc.cells rmc.slots n := ⟨callB_of n c5 (tb_wsy f5) rfl rfl rfl (c5 _ f4) (c5 _ f1) f6 hR, c5 _ f2, c5 _ f3⟩
  refine after_callX (vx_runV (As := As) (rest := rest) ⟨c1, c2, c3, c4, c5⟩ m1 cw ⟨vaPc_blind, by rw [← hcy]; exact rc_of hh c6 (w1.1 0 0 rfl) (r := (RX6, TX6, 9)) rfl, fun U hU hW => ⟨rfl, PW.now hh c6 c7 hS hU hW⟩⟩ rfl hn hl.1 hst (lv_room hcat) d ⟨by omega, by omega⟩) hS c11 (fun E ce q9 h' H1 locs1 hx hh1 hS1 g1 g2 g3 => ?_) fun v h' H1 locs1 hp hh1 hS1 => ?_
  · obtain ⟨g', q1, q2, q3⟩ := hx
    obtain ⟨q4, rfl⟩ := m2 E g' q1
    obtain ⟨tgt, ⟨pre, z, suf, k1, k2, k3, k4, k5, k7, k8⟩, kv⟩ := kx E q4
    subst k8
    exact vx_catch c4 pre z suf (XH.trans k1) (fun w hw => Or.inr ⟨(k2 w hw).1, by
      obtain ⟨nm, j1, j2, j3⟩ := (k2 w hw).2
      exact ⟨nm, c5 _ j1, c6.2.2.2.2.2.2.1 E k7 nm j2 j3⟩⟩) k3 k4 (c5 _ k5) (va_Nw.use rfl (c6.2.2.2.2.2.2.2.2 E k7)) g1 g2 g3 (kv q9 h' _ _ (pw_same w q3 q2) (by omega) (by omega) H1 locs1 ls hh1 hS1 hl)
  · obtain ⟨g9, q1, q2, q3⟩ := hp
    obtain ⟨S', q4, q5⟩ := m3 v g9 h' q1 q3
    exact kk v _ q5 h' _ _ (pw_next w q3 q2 q4) (by omega) (by omega) H1 locs1 ls hh1 hS1 hl
/-- a call of a method of the law -/
theorem p_callS (C : cxOk G own cc rm nL x) (LX : pX x) (d : dn cc pc (.invokestatic i) 3 nx) (F : okS own i y b maxL ret n) {Q : Option Value → mS → (Nat → Nat) → Prop} (M : ∀ l, l.stackTraces = false → kW l G ad g f y b maxL ret rmc As Q) (hn : As.length = n) (hst : st = As.reverse ++ rest) (hcat : (rest.map fun v => v.category).sum ≤ 8) (hR : rmc.frames + 1 ≤ rm.frames ∧ 8 + (maxL + 11) + rmc.locals ≤ rm.locals) (hB : B' + rmc.cells ≤ B ∧ rmc.slots ≤ 8 * rmc.cells)
    (kk : ∀ v g' f', Q v g' f' → VP G x ad g' f' rm B' nx lv (v.toList ++ rest)) : VP G x ad g f rm B pc lv st := by
  intro h n1 n2 w b1 b2
  refine r_callS C d F (fun l' e' => M l' (LX l' e') h w) hn hst hcat ⟨hR, by omega, by omega⟩ (fun v h' q => ?_)
  obtain ⟨g', f', q1, q2⟩ := q
  exact kk v g' f' q1 h' _ _ q2 (by omega) (by omega)
theorem p_callSH (C : cxOk G own cc rm nL x) (LX : pX x) {hd : List (Nat × Nat × Nat × Nat)} (d : dn cc pc (.invokestatic i) 3 nx) (F : okSH own i y b maxL ret hd n) {Q : Option Value → mS → (Nat → Nat) → Prop} (M : ∀ l, l.stackTraces = false → kWH l G ad g f y b maxL ret hd rmc As Q) (hn : As.length = n) (hst : st = As.reverse ++ rest) (hcat : (rest.map fun v => v.category).sum ≤ 8) (hR : rmc.frames + 1 ≤ rm.frames ∧ 8 + (maxL + 11) + rmc.locals ≤ rm.locals) (hB : B' + rmc.cells ≤ B ∧ rmc.slots ≤ 8 * rmc.cells)
    (kk : ∀ v g' f', Q v g' f' → VP G x ad g' f' rm B' nx lv (v.toList ++ rest)) : VP G x ad g f rm B pc lv st := by
  intro h n1 n2 w b1 b2
  refine r_callSH C d F (fun l' e' => M l' (LX l' e') h w) hn hst hcat ⟨hR, by omega, by omega⟩ (fun v h' q => ?_)
  obtain ⟨g', f', q1, q2⟩ := q
  exact kk v g' f' q1 h' _ _ q2 (by omega) (by omega)

end PROWS
