/-! contracts, calls, answers, throws -/
def QcG (G : eG) (post : Option Value → hp → Prop) : Array Value → State → Outcome → State → Prop := fun _ st oc t => (∃ (v : Option Value) (h' : hp), oc = .returned v ∧ post v h' ∧ hH G h' t.heap) ∧ va_F (eA G) st t
def XcG (G : eG) (xp : String → hp → Prop) : String → State → State → Prop := fun E st t => (∃ h' : hp, xp E h' ∧ hH G h' t.heap) ∧ va_F (eA G) st t
def wsy (y : MethodName) (b : ByteArray) (nL : Nat) (ret : Option FieldType) : List Cond := .code y b nL ret :: TB
def wsh (y : MethodName) (b : ByteArray) (nL : Nat) (ret : Option FieldType) (hh : List (Nat × Nat × Nat × Nat)) : List Cond := .codeWith y b nL ret hh :: TB
theorem tb_wsy {y : MethodName} {b : ByteArray} {nL : Nat} {ret : Option FieldType} (hc : Cond.code y b nL ret ∈ TB) : GoodIn TB (wsy y b nL ret) := by
  intro w hw
  have hm : w ∈ TB := by
    rcases List.mem_cons.mp hw with h | h
    · rw [h]; exact hc
    · exact h
  exact ⟨hm, good_of_word (tb_good hm)⟩
theorem tb_wsh {y : MethodName} {b : ByteArray} {nL : Nat} {ret : Option FieldType} {hh : List (Nat × Nat × Nat × Nat)} (hc : Cond.codeWith y b nL ret hh ∈ TB) : GoodIn TB (wsh y b nL ret hh) := by
  intro w hw
  have hm : w ∈ TB := by
    rcases List.mem_cons.mp hw with h | h
    · rw [h]; exact hc
    · exact h
  exact ⟨hm, good_of_word (tb_good hm)⟩
/-- a method that returns -/
def MC (l : Launch) (G : eG) (y : MethodName) (b : ByteArray) (nL : Nat) (ret : Option FieldType) (rm : Room) (av : List Value) (h : hp) (post : Option Value → hp → Prop) : Prop :=
  Met l y (wsy y b nL ret) rm (va_Pc av (PW G h)) (QcG G post) rm.cells rm.slots (eA G)
/-- a method that returns or throws -/
def MX (l : Launch) (G : eG) (y : MethodName) (b : ByteArray) (nL : Nat) (ret : Option FieldType) (rm : Room) (av : List Value) (h : hp) (post : Option Value → hp → Prop) (xp : String → hp → Prop) : Prop :=
  vx_Met l y (wsy y b nL ret) rm (va_Pc av (PW G h)) (QcG G post) (XcG G xp) rm.cells rm.slots (eA G)
/-- the same of a method with a table of handlers -/
def MH (l : Launch) (G : eG) (y : MethodName) (b : ByteArray) (nL : Nat) (ret : Option FieldType) (hd : List (Nat × Nat × Nat × Nat)) (rm : Room) (av : List Value) (h : hp) (post : Option Value → hp → Prop) : Prop :=
  vx_Met l y (wsh y b nL ret hd) rm (va_Pc av (PW G h)) (QcG G post) (XcG G (fun _ _ => False)) rm.cells rm.slots (eA G)
/-- the answer's duty: a body may end so -/
def cxR (G : eG) (post : Option Value → hp → Prop) (mc ms : Nat) : CX → Prop
  | (p, l, e, R, s, m, args, below, meth, c, Q, n) => ∀ (H : Heap) (locs : List Loc) (g : JFrame), W p l e R s m args below meth c H locs mc ms (MQ below (QcG G post) args s mc ms (eA G)) g → W p l e R s m args below meth c H locs mc ms Q g
def cxT (ret : Option FieldType) : CX → Prop
  | (p, l, e, R, s, m, args, below, meth, c, Q, n) => meth.sig.returnType = ret
/-- a body that may throw -/
def cxX (G : eG) (post : Option Value → hp → Prop) (xp : String → hp → Prop) (mc ms : Nat) : CX → Prop
  | (p, l, e, R, s, m, args, below, meth, c, Q, n) => Q = vx_MQ below (QcG G post) (XcG G xp) args s mc ms (eA G) ∧ (∀ z ∈ c.exceptionTable.toList, False) ∧ l.stackTraces = false
/-- a body with handlers -/
def cxH (hd : List (Nat × Nat × Nat × Nat)) : CX → Prop
  | (p, l, e, R, s, m, args, below, meth, c, Q, n) => c.exceptionTable.toList = tableOf hd
theorem vaF_of {G : eG} {s t : State} {H : Heap} {locs : List Loc} (hS : va_S (eA G) s.heap H locs) (ht : t.heap = H) : va_F (eA G) s t := hS.F ht
section RET
variable {G : eG} {x : CX} {n1 n2 mc ms : Nat} {h : hp} {pc nx : Nat} {lv : List (Nat × Value)} {st : List Value} {own : String} {cc : ByteArray} {rm : Room} {nL : Nat} {post : Option Value → hp → Prop} {xp : String → hp → Prop}
theorem r_iret (C : cxOk G own cc rm nL x) (A : cxR G post mc ms x) {ty : FieldType} (T : cxT (some ty) x) {v : Int32} (d : dn cc pc .ireturn 1 nx) (hn : narrow ty (.int v) = .int v) (h1 : n1 ≤ mc) (h2 : n2 ≤ ms) (hq : post (some (.int v)) h) : VV G x n1 n2 h pc lv [.int v] := by
  obtain ⟨p, l, e, R, s, m, args, below, meth, c, Q, n⟩ := x
  intro H locs ls hh hS hl
  obtain ⟨c1, c2, c3, c4, c5, c6, c7, c8, c9, c10, c11⟩ := C
  refine W.widen h1 h2 (A H locs _ ?_)
  exact W.zret c1 c2 T hn (fun t ht hW => ⟨⟨_, h, rfl, hq, by rw [ht]; exact hh⟩, hS.F ht⟩) (fun q hq => hS.2.2 q hq) d.1 c8
theorem r_lret (C : cxOk G own cc rm nL x) (A : cxR G post mc ms x) (T : cxT (some .long) x) {v : Int64} (d : dn cc pc .lreturn 1 nx) (h1 : n1 ≤ mc) (h2 : n2 ≤ ms) (hq : post (some (.long v)) h) : VV G x n1 n2 h pc lv [.long v] := by
  obtain ⟨p, l, e, R, s, m, args, below, meth, c, Q, n⟩ := x
  intro H locs ls hh hS hl
  obtain ⟨c1, c2, c3, c4, c5, c6, c7, c8, c9, c10, c11⟩ := C
  refine W.widen h1 h2 (A H locs _ ?_)
  exact W.lret c1 c2 T (fun t ht hW => ⟨⟨_, h, rfl, hq, by rw [ht]; exact hh⟩, hS.F ht⟩) (fun q hq => hS.2.2 q hq) d.1 c8
theorem r_vret (C : cxOk G own cc rm nL x) (A : cxR G post mc ms x) (T : cxT none x) (d : dn cc pc .return_ 1 nx) (h1 : n1 ≤ mc) (h2 : n2 ≤ ms) (hq : post none h) : VV G x n1 n2 h pc lv [] := by
  obtain ⟨p, l, e, R, s, m, args, below, meth, c, Q, n⟩ := x
  intro H locs ls hh hS hl
  obtain ⟨c1, c2, c3, c4, c5, c6, c7, c8, c9, c10, c11⟩ := C
  refine W.widen h1 h2 (A H locs _ ?_)
  exact W.vret c1 c2 T (fun t ht hW => ⟨⟨_, h, rfl, hq, by rw [ht]; exact hh⟩, hS.F ht⟩) (fun q hq => hS.2.2 q hq) d.1 c8
theorem r_aret (C : cxOk G own cc rm nL x) (A : cxR G post mc ms x) {CN : String} (T : cxT (some (.object CN)) x) {a : Nat} (d : dn cc pc .areturn 1 nx) (h1 : n1 ≤ mc) (h2 : n2 ≤ ms) (hq : post (some (.ref a)) h) : VV G x n1 n2 h pc lv [.ref a] := by
  obtain ⟨p, l, e, R, s, m, args, below, meth, c, Q, n⟩ := x
  intro H locs ls hh hS hl
  obtain ⟨c1, c2, c3, c4, c5, c6, c7, c8, c9, c10, c11⟩ := C
  refine W.widen h1 h2 (A H locs _ ?_)
  exact W.aret c1 c2 T (Or.inl ⟨_, rfl⟩) (Or.inr ⟨_, rfl⟩) (fun t ht hW => ⟨⟨_, h, rfl, hq, by rw [ht]; exact hh⟩, hS.F ht⟩) (fun q hq => hS.2.2 q hq) d.1 c8
end RET
/-! the entry -/
theorem MC.of {l : Launch} {G : eG} {y : MethodName} {b : ByteArray} {nL : Nat} {ret : Option FieldType} {rm : Room} {av : List Value} {h : hp} {post : Option Value → hp → Prop} (hy : plainName y.cls = true) (hlen : (lg_sl av).length ≤ nL)
    (body : ∀ x, cxOk G y.cls b rm nL x → cxR G post rm.cells rm.slots x → cxT ret x → (y.name = "<init>" → cxI x) → VV G x 0 0 h 0 (lv_args 0 av) []) : MC l G y b nL ret rm av h post := by
  refine Met.ofW (cc := b) (maxL := nL) (ret := ret) hy rfl ?_
  intro p e s m args below meth c s₁ B hml hv
  obtain ⟨rfl, hH0, hK0, hZ0⟩ := hv
  have hts := atoms_spec (ws := wsy y b nL ret) B.pre
  have hown : s.vm.findClass y.cls = some m.cls := findClass_of_methodNamed B.named
  have hin : meth.name = y.name := (name_of_methodNamed B.named B.method).1
  rw [lg_entry_eq]
  exact body (p, l, e, _, s, m, av.toArray, below, meth, c, _, nL) ⟨B.exec, B.bytes, hml, hown, fun w hw => hts w (List.mem_cons_of_mem _ hw), hK0, hZ0, B.notSynchronized, rfl, rfl, hH0.1⟩ (fun H locs g k => k) B.returns (fun q => hin.trans q) s.heap [] _ hH0 va_S.rf (lv_entry av hlen)
theorem MX.of {l : Launch} {G : eG} {y : MethodName} {b : ByteArray} {nL : Nat} {ret : Option FieldType} {rm : Room} {av : List Value} {h : hp} {post : Option Value → hp → Prop} {xp : String → hp → Prop} (hlf : l.stackTraces = false) (hy : plainName y.cls = true) (hlen : (lg_sl av).length ≤ nL)
    (body : ∀ x, cxOk G y.cls b rm nL x → cxR G post rm.cells rm.slots x → cxT ret x → cxX G post xp rm.cells rm.slots x → VV G x 0 0 h 0 (lv_args 0 av) []) : MX l G y b nL ret rm av h post xp := by
  refine vx_ofW (cc := b) (maxL := nL) (ret := ret) hy rfl ?_
  intro p e s m args below meth c s₁ B hml htab hv
  obtain ⟨rfl, hH0, hK0, hZ0⟩ := hv
  have hts := atoms_spec (ws := wsy y b nL ret) B.pre
  have hown : s.vm.findClass y.cls = some m.cls := findClass_of_methodNamed B.named
  rw [lg_entry_eq]
  exact body (p, l, e, _, s, m, av.toArray, below, meth, c, _, nL) ⟨B.exec, B.bytes, hml, hown, fun w hw => hts w (List.mem_cons_of_mem _ hw), hK0, hZ0, B.notSynchronized, rfl, rfl, hH0.1⟩ (fun H locs g k => vx_ret k) B.returns ⟨rfl, htab, hlf⟩ s.heap [] _ hH0 va_S.rf (lv_entry av hlen)
theorem MH.of {l : Launch} {G : eG} {y : MethodName} {b : ByteArray} {nL : Nat} {ret : Option FieldType} {hd : List (Nat × Nat × Nat × Nat)} {rm : Room} {av : List Value} {h : hp} {post : Option Value → hp → Prop} (hy : plainName y.cls = true) (hlen : (lg_sl av).length ≤ nL)
    (body : ∀ x, cxOk G y.cls b rm nL x → cxR G post rm.cells rm.slots x → cxT ret x → cxH hd x → VV G x 0 0 h 0 (lv_args 0 av) []) : MH l G y b nL ret hd rm av h post := by
  refine vx_ofWH (cc := b) (maxL := nL) (ret := ret) (hh := hd) hy rfl ?_
  intro p e s m args below meth c s₁ B hml hv
  obtain ⟨rfl, hH0, hK0, hZ0⟩ := hv
  have hts := atoms_spec (ws := wsh y b nL ret hd) B.pre
  have hown : s.vm.findClass y.cls = some m.cls := findClass_of_methodNamed B.named
  have htab := vx_table (x := y) B (hts (.codeWith y b nL ret hd) List.mem_cons_self)
  rw [lg_entry_eq]
  exact body (p, l, e, _, s, m, av.toArray, below, meth, c, _, nL) ⟨B.exec, B.bytes, hml, hown, fun w hw => hts w (List.mem_cons_of_mem _ hw), hK0, hZ0, B.notSynchronized, rfl, rfl, hH0.1⟩ (fun H locs g k => vx_ret k) B.returns htab s.heap [] _ hH0 va_S.rf (lv_entry av hlen)
/-! calls -/
def okV (own : String) (i : Nat) (y : MethodName) (b : ByteArray) (nL : Nat) (ret : Option FieldType) (n : Nat) : Prop := Cond.methodLink own i y ∈ TB ∧ Cond.instanceMethod y ∈ TB ∧ Cond.selects y.cls y y ∈ TB ∧ Cond.initialized y.cls ∈ TB ∧ Cond.code y b nL ret ∈ TB ∧ (y.cls ≠ "java/lang/invoke/MethodHandle" ∧ y.cls ≠ "java/lang/invoke/VarHandle" ∧ (parseMethodDescriptor y.desc).map (fun d => d.parameters.length) = some n)
def okS (own : String) (i : Nat) (y : MethodName) (b : ByteArray) (nL : Nat) (ret : Option FieldType) (n : Nat) : Prop := Cond.methodLink own i y ∈ TB ∧ Cond.static y ∈ TB ∧ Cond.initialized y.cls ∈ TB ∧ Cond.code y b nL ret ∈ TB ∧ (y.cls ≠ "java/lang/invoke/MethodHandle" ∧ y.cls ≠ "java/lang/invoke/VarHandle" ∧ (parseMethodDescriptor y.desc).map (fun d => d.parameters.length) = some n)
def okI (own : String) (i : Nat) (y : MethodName) (b : ByteArray) (nL : Nat) (n : Nat) : Prop := Cond.methodLink own i y ∈ TB ∧ Cond.instanceMethod y ∈ TB ∧ y.name = "<init>" ∧ Cond.initialized y.cls ∈ TB ∧ Cond.code y b nL none ∈ TB ∧ (y.cls ≠ "java/lang/invoke/MethodHandle" ∧ y.cls ≠ "java/lang/invoke/VarHandle" ∧ (parseMethodDescriptor y.desc).map (fun d => d.parameters.length) = some n)
def okN (own : String) (i : Nat) (y : MethodName) (b : ByteArray) (nL : Nat) (n : Nat) : Prop := (∀ (G : eG) (U : State), gK G U → va_Nw (.methodLinkNest own i y own) U) ∧ Cond.instanceMethod y ∈ TB ∧ y.name = "<init>" ∧ Cond.initialized y.cls ∈ TB ∧ Cond.code y b nL none ∈ TB ∧ (y.cls ≠ "java/lang/invoke/MethodHandle" ∧ y.cls ≠ "java/lang/invoke/VarHandle" ∧ (parseMethodDescriptor y.desc).map (fun d => d.parameters.length) = some n)
def okSH (own : String) (i : Nat) (y : MethodName) (b : ByteArray) (nL : Nat) (ret : Option FieldType) (hd : List (Nat × Nat × Nat × Nat)) (n : Nat) : Prop := Cond.methodLink own i y ∈ TB ∧ Cond.static y ∈ TB ∧ Cond.initialized y.cls ∈ TB ∧ Cond.codeWith y b nL ret hd ∈ TB ∧ (y.cls ≠ "java/lang/invoke/MethodHandle" ∧ y.cls ≠ "java/lang/invoke/VarHandle" ∧ (parseMethodDescriptor y.desc).map (fun d => d.parameters.length) = some n)
theorem vaPc_blind {G : eG} {h : hp} {av : List Value} : FrameBlind (va_Pc av (PW G h)) := fun a U g mk q => ⟨q.1, q.2.calling⟩
section CALLS
variable {p : Program} {l : Launch} {e : Env} {R : Room} {s : State} {m : MethodId} {args : Array Value} {below : List Frame} {meth : Method} {c : Code} {H : Heap} {locs : List Loc} {cells slots : Nat} {Q : State → Prop} {G : eG}
theorem PW.now {h : hp} {U : State} (hh : hH G h H) (hK : gK G s) (hZ : gZ G s s.heap) (hS : va_S (eA G) s.heap H locs) (hU : U.heap = H) (hW : s.WarmedH U.vm) : PW G h U := by
  refine ⟨by rw [hU]; exact hh, gK.warm hW hK, ?_, ?_⟩
  · rw [hU]; exact vx_Zq.moved hW.alike (hZ.1.kept hS.2.1)
  · rw [hU]; exact vx_Zq.moved hW.alike (hZ.2.kept hS.2.1)
theorem rc_of {h : hp} {a ci : Nat} {fs : List Value} {r : vw_C} (hh : hH G h H) (hK : gK G s) (he : h a = some (.inr (ci, fs))) (hc : vwCl[ci]? = some r) : ∃ cell : Cell, H[a]? = some cell ∧ cell.vm.isStatics = false ∧ s.vm.findClass r.1 = some cell.cls := by
  obtain ⟨q', h1, cell, g1, g2, g3, -⟩ := (hh.2 _ _ he).2
  exact ⟨cell, g1, by rw [g3]; rfl, by rw [g2]; exact (hK.1.1 ci r hc).2.1⟩
theorem after_S {H1 : Heap} {L : List Loc} {st₀ t : State} (h0 : st₀.heap = H) (e1 : H1 = t.heap) (hS : va_S (eA G) s.heap H locs) (hB : eB G ≤ s.heap.size) (hL : ∀ q ∈ L, eA G q.base) (hF : va_F (eA G) st₀ t) : va_S (eA G) s.heap H1 (locs ++ L) := by
  obtain ⟨hz, hk⟩ := hF
  rw [h0] at hz hk
  refine ⟨Nat.le_trans hS.1 (by rw [e1]; exact hz), fun q y1 y2 => ?_, fun q hq => ?_⟩
  · rw [e1, hk q (Nat.lt_of_lt_of_le y1 hS.1) y2]
    exact hS.2.1 q y1 y2
  · rcases List.mem_append.mp hq with y | y
    · exact hS.2.2 q y
    · exact hL q y
theorem after_call {mc ms : Nat} {pc : Nat} {ls : Array Slot} {st0 rest : List Value} {a : Array Value} {post : Option Value → hp → Prop} (hr : va_Run p l e R s m args below meth c H locs cells slots mc ms (F0 m pc ls st0) rest (QcG G post a) (eA G)) (hS : va_S (eA G) s.heap H locs) (hB : eB G ≤ s.heap.size)
    (kk : ∀ (v : Option Value) (h' : hp) (H1 : Heap) (locs1 : List Loc), post v h' → hH G h' H1 → va_S (eA G) s.heap H1 locs1 → W p l e R s m args below meth c H1 locs1 (cells + mc) (slots + ms) Q (F0 m (pc + 3) ls (v.toList ++ rest))) : W p l e R s m args below meth c H locs cells slots Q (F0 m pc ls st0) := by
  intro T hT X
  obtain ⟨v, st₀, t, T', L, h0, X', hL, e1, e2, ⟨⟨v', h', hv, hp', hh'⟩, hF⟩, st⟩ := hr T hT X
  cases hv
  obtain ⟨t2, a1, b1⟩ := kk v h' T'.heap (locs ++ L) hp' (by rw [e1]; exact hh') (after_S h0 e1 hS hB hL hF) T' rfl X'
  exact ⟨t2, st t2 a1, b1⟩
theorem after_callX {mc ms : Nat} {pc : Nat} {ls : Array Slot} {st0 rest : List Value} {a : Array Value} {post : Option Value → hp → Prop} {xp : String → hp → Prop} (hr : vx_Run p l e R s m args below meth c H locs cells slots mc ms (F0 m pc ls st0) rest (QcG G post a) (XcG G xp) (eA G)) (hS : va_S (eA G) s.heap H locs) (hB : eB G ≤ s.heap.size)
    (kx : ∀ (E : String) (ce : Cell) (q9 : Addr) (h' : hp) (H1 : Heap) (locs1 : List Loc), xp E h' → hH G h' H1 → va_S (eA G) s.heap H1 locs1 → H1[q9]? = some ce → ce.vm = .none → s.vm.findClass E = some ce.cls → vx_W p l e R s m args below meth c H1 locs1 (cells + mc) (slots + ms) Q (F0 m pc ls rest) q9)
    (kk : ∀ (v : Option Value) (h' : hp) (H1 : Heap) (locs1 : List Loc), post v h' → hH G h' H1 → va_S (eA G) s.heap H1 locs1 → W p l e R s m args below meth c H1 locs1 (cells + mc) (slots + ms) Q (F0 m (pc + 3) ls (v.toList ++ rest))) : W p l e R s m args below meth c H locs cells slots Q (F0 m pc ls st0) := by
  intro T hT X
  rcases hr T hT X with ⟨v, st₀, t, T', L, h0, X', hL, e1, e2, ⟨⟨v', h', hv, hp', hh'⟩, hF⟩, st⟩ | ⟨q, st₀, t, T', L, E, ce, h0, X', hL, e1, e2, ⟨⟨h', hp', hh'⟩, hF⟩, hce, hcv, hcl, st⟩
  · cases hv
    obtain ⟨t2, a1, b1⟩ := kk v h' T'.heap (locs ++ L) hp' (by rw [e1]; exact hh') (after_S h0 e1 hS hB hL hF) T' rfl X'
    exact ⟨t2, st t2 a1, b1⟩
  · obtain ⟨t2, a1, b1⟩ := kx E ce q h' T'.heap (locs ++ L) hp' (by rw [e1]; exact hh') (after_S h0 e1 hS hB hL hF) (by rw [e1]; exact hce) hcv hcl T' rfl X'
    exact ⟨t2, st.trans a1, b1⟩
end CALLS
def cxL (l : Launch) : CX → Prop
  | (p, l', e, R, s, m, args, below, meth, c, Q, n) => l' = l
/-- the room of a callee within its caller's -/
def rmIn (rm R : Room) (nL n1 n2 : Nat) : Prop := (rm.frames + 1 ≤ R.frames ∧ 8 + (nL + 11) + rm.locals ≤ R.locals) ∧ n1 + rm.cells ≤ R.cells ∧ n2 + rm.slots ≤ R.slots
section CROWS
variable {G : eG} {x : CX} {n1 n2 : Nat} {h : hp} {pc nx : Nat} {lv : List (Nat × Value)} {rest st : List Value} {own : String} {cc : ByteArray} {R0 rm : Room} {n0 nL : Nat} {post : Option Value → hp → Prop} {xp : String → hp → Prop} {i a ci n : Nat} {As : List Value} {y : MethodName} {b : ByteArray} {ret : Option FieldType}
theorem r_callV (C : cxOk G own cc R0 n0 x) (d : dn cc pc (.invokevirtual i) 3 nx) (F : okV own i y b nL ret n) (hM : ∀ l, cxL l x → MC l G y b nL ret rm (.ref a :: As) h post) {fs : List Value} {r : vw_C} (he : h a = some (.inr (ci, fs))) (hc : vwCl[ci]? = some r) (hcy : r.1 = y.cls) (hn : As.length = n) (hst : st = As.reverse ++ .ref a :: rest) (hcat : (rest.map fun v => v.category).sum ≤ 8) (hR : rmIn rm R0 nL n1 n2)
    (kk : ∀ v h', post v h' → VV G x (n1 + rm.cells) (n2 + rm.slots) h' nx lv (v.toList ++ rest)) : VV G x n1 n2 h pc lv st := by
  obtain ⟨p, l, e, R, s, m, args, below, meth, c, Q, n'⟩ := x
  obtain ⟨d, rfl⟩ := d
  obtain ⟨f1, f2, f3, f4, f5, f6⟩ := F
  intro H locs ls hh hS hl
  obtain ⟨c1, c2, c3, c4, c5, c6, c7, c8, rfl, rfl, c11⟩ := C
  have cw : CallW R s args own y.cls i y b nL ret (wsy y b nL ret) rm rm.cells rm.slots n := ⟨callB_of n c5 (tb_wsy f5) rfl rfl rfl (c5 _ f4) (c5 _ f1) f6 hR.1, c5 _ f2, c5 _ f3⟩
  refine after_call (va_runV (As := As) (rest := rest) ⟨c1, c2, c3, c4, c5⟩ (hM l rfl) cw ⟨vaPc_blind, by rw [← hcy]; exact rc_of hh c6 he hc, fun U hU hW => ⟨rfl, PW.now hh c6 c7 hS hU hW⟩⟩ rfl hn hl.1 hst (lv_room hcat) d hR.2) hS c11 fun v h' H1 locs1 hp hh1 hS1 => ?_
  exact kk v h' hp H1 locs1 ls hh1 hS1 hl
theorem r_callS (C : cxOk G own cc R0 n0 x) (d : dn cc pc (.invokestatic i) 3 nx) (F : okS own i y b nL ret n) (hM : ∀ l, cxL l x → MC l G y b nL ret rm As h post) (hn : As.length = n) (hst : st = As.reverse ++ rest) (hcat : (rest.map fun v => v.category).sum ≤ 8) (hR : rmIn rm R0 nL n1 n2)
    (kk : ∀ v h', post v h' → VV G x (n1 + rm.cells) (n2 + rm.slots) h' nx lv (v.toList ++ rest)) : VV G x n1 n2 h pc lv st := by
  obtain ⟨p, l, e, R, s, m, args, below, meth, c, Q, n'⟩ := x
  obtain ⟨d, rfl⟩ := d
  obtain ⟨f1, f2, f4, f5, f6⟩ := F
  intro H locs ls hh hS hl
  obtain ⟨c1, c2, c3, c4, c5, c6, c7, c8, rfl, rfl, c11⟩ := C
  have cw : CallB R s args own i y b nL ret (wsy y b nL ret) rm rm.cells rm.slots n ∧ (Cond.static y).before args s = true := ⟨callB_of n c5 (tb_wsy f5) rfl rfl rfl (c5 _ f4) (c5 _ f1) f6 hR.1, c5 _ f2⟩
  refine after_call (va_runS (As := As) (rest := rest) ⟨c1, c2, c3, c4, c5⟩ (hM l rfl) cw ⟨vaPc_blind, fun U hU hW => ⟨rfl, PW.now hh c6 c7 hS hU hW⟩⟩ rfl hn hl.1 hst (lv_room hcat) d hR.2) hS c11 fun v h' H1 locs1 hp hh1 hS1 => ?_
  exact kk v h' hp H1 locs1 ls hh1 hS1 hl
theorem r_callI (C : cxOk G own cc R0 n0 x) (d : dn cc pc (.invokespecial i) 3 nx) (F : okI own i y b nL n) (hM : ∀ l, cxL l x → MC l G y b nL none rm (.ref a :: As) h post) (hn : As.length = n) (hst : st = As.reverse ++ .ref a :: rest) (hcat : (rest.map fun v => v.category).sum ≤ 8) (hR : rmIn rm R0 nL n1 n2)
    (kk : ∀ v h', post v h' → VV G x (n1 + rm.cells) (n2 + rm.slots) h' nx lv (v.toList ++ rest)) : VV G x n1 n2 h pc lv st := by
  obtain ⟨p, l, e, R, s, m, args, below, meth, c, Q, n'⟩ := x
  obtain ⟨d, rfl⟩ := d
  obtain ⟨f1, f2, f3, f4, f5, f6⟩ := F
  intro H locs ls hh hS hl
  obtain ⟨c1, c2, c3, c4, c5, c6, c7, c8, rfl, rfl, c11⟩ := C
  have cw : CallB R s args own i y b nL none (wsy y b nL none) rm rm.cells rm.slots n ∧ y.name = "<init>" ∧ (Cond.instanceMethod y).before args s = true := ⟨callB_of n c5 (tb_wsy f5) rfl rfl rfl (c5 _ f4) (c5 _ f1) f6 hR.1, f3, c5 _ f2⟩
  refine after_call (va_runI (As := As) (rest := rest) ⟨c1, c2, c3, c4, c5⟩ (hM l rfl) cw ⟨vaPc_blind, fun U hU hW => ⟨rfl, PW.now hh c6 c7 hS hU hW⟩⟩ rfl hn hl.1 hst (lv_room hcat) d hR.2) hS c11 fun v h' H1 locs1 hp hh1 hS1 => ?_
  exact kk v h' hp H1 locs1 ls hh1 hS1 hl
theorem r_callN (C : cxOk G own cc R0 n0 x) (d : dn cc pc (.invokespecial i) 3 nx) (F : okN own i y b nL n) (hM : ∀ l, cxL l x → MC l G y b nL none rm (.ref a :: As) h post) (hn : As.length = n) (hst : st = As.reverse ++ .ref a :: rest) (hcat : (rest.map fun v => v.category).sum ≤ 8) (hR : rmIn rm R0 nL n1 n2)
    (kk : ∀ v h', post v h' → VV G x (n1 + rm.cells) (n2 + rm.slots) h' nx lv (v.toList ++ rest)) : VV G x n1 n2 h pc lv st := by
  obtain ⟨p, l, e, R, s, m, args, below, meth, c, Q, n'⟩ := x
  obtain ⟨d, rfl⟩ := d
  obtain ⟨f1, f2, f3, f4, f5, f6⟩ := F
  intro H locs ls hh hS hl
  obtain ⟨c1, c2, c3, c4, c5, c6, c7, c8, rfl, rfl, c11⟩ := C
  have cw : va_CN R s args own i y own b nL none (wsy y b nL none) rm rm.cells rm.slots n ∧ y.name = "<init>" ∧ (Cond.instanceMethod y).before args s = true := ⟨va_cnB n c5 (tb_wsy f5) rfl rfl rfl (f1 G s c6) (c5 _ f4) f6 hR.1, f3, c5 _ f2⟩
  refine after_call (va_runIN (As := As) (rest := rest) ⟨c1, c2, c3, c4, c5⟩ (hM l rfl) cw ⟨vaPc_blind, fun U hU hW => ⟨rfl, PW.now hh c6 c7 hS hU hW⟩⟩ rfl hn hl.1 hst (lv_room hcat) d hR.2) hS c11 fun v h' H1 locs1 hp hh1 hS1 => ?_
  exact kk v h' hp H1 locs1 ls hh1 hS1 hl
/-! calls of methods that may throw, from a body without handlers: it goes on to the caller -/
theorem r_callVX (C : cxOk G own cc R0 n0 x) {post0 : Option Value → hp → Prop} {xp0 : String → hp → Prop} (X : cxX G post0 xp0 R0.cells R0.slots x) (d : dn cc pc (.invokevirtual i) 3 nx) (F : okV own i y b nL ret n) (hM : ∀ l, cxL l x → l.stackTraces = false → MX l G y b nL ret rm (.ref a :: As) h post xp) {fs : List Value} {r : vw_C} (he : h a = some (.inr (ci, fs))) (hc : vwCl[ci]? = some r) (hcy : r.1 = y.cls) (hn : As.length = n) (hst : st = As.reverse ++ .ref a :: rest) (hcat : (rest.map fun v => v.category).sum ≤ 8) (hR : rmIn rm R0 nL n1 n2)
    (hxx : ∀ E h', xp E h' → xp0 E h')
    (kk : ∀ v h', post v h' → VV G x (n1 + rm.cells) (n2 + rm.slots) h' nx lv (v.toList ++ rest)) : VV G x n1 n2 h pc lv st := by
  obtain ⟨p, l, e, R, s, m, args, below, meth, c, Q, n'⟩ := x
  obtain ⟨d, rfl⟩ := d
  obtain ⟨f1, f2, f3, f4, f5, f6⟩ := F
  intro H locs ls hh hS hl
  obtain ⟨c1, c2, c3, c4, c5, c6, c7, c8, rfl, rfl, c11⟩ := C
  obtain ⟨rfl, x2, x3⟩ := X
  have cw : CallW R s args own y.cls i y b nL ret (wsy y b nL ret) rm rm.cells rm.slots n := ⟨callB_of n c5 (tb_wsy f5) rfl rfl rfl (c5 _ f4) (c5 _ f1) f6 hR.1, c5 _ f2, c5 _ f3⟩
  refine after_callX (vx_runV (As := As) (rest := rest) ⟨c1, c2, c3, c4, c5⟩ (hM l rfl x3) cw ⟨vaPc_blind, by rw [← hcy]; exact rc_of hh c6 he hc, fun U hU hW => ⟨rfl, PW.now hh c6 c7 hS hU hW⟩⟩ rfl hn hl.1 hst (lv_room hcat) d hR.2) hS c11 (fun E ce q9 h' H1 locs1 hx hh1 hS1 g1 g2 g3 => ?_) fun v h' H1 locs1 hp hh1 hS1 => ?_
  · exact vx_out (fun z hz => (x2 z hz).elim) c8 g1 g2 g3 (fun t ht ha => ⟨⟨h', hxx E h' hx, by rw [ht]; exact hh1⟩, hS1.F ht⟩) (fun z hz => hS1.2.2 z hz) hR.2.1 hR.2.2
  · exact kk v h' hp H1 locs1 ls hh1 hS1 hl
theorem r_callSX (C : cxOk G own cc R0 n0 x) {post0 : Option Value → hp → Prop} {xp0 : String → hp → Prop} (X : cxX G post0 xp0 R0.cells R0.slots x) (d : dn cc pc (.invokestatic i) 3 nx) (F : okS own i y b nL ret n) (hM : ∀ l, cxL l x → l.stackTraces = false → MX l G y b nL ret rm As h post xp) (hn : As.length = n) (hst : st = As.reverse ++ rest) (hcat : (rest.map fun v => v.category).sum ≤ 8) (hR : rmIn rm R0 nL n1 n2)
    (hxx : ∀ E h', xp E h' → xp0 E h')
    (kk : ∀ v h', post v h' → VV G x (n1 + rm.cells) (n2 + rm.slots) h' nx lv (v.toList ++ rest)) : VV G x n1 n2 h pc lv st := by
  obtain ⟨p, l, e, R, s, m, args, below, meth, c, Q, n'⟩ := x
  obtain ⟨d, rfl⟩ := d
  obtain ⟨f1, f2, f4, f5, f6⟩ := F
  intro H locs ls hh hS hl
  obtain ⟨c1, c2, c3, c4, c5, c6, c7, c8, rfl, rfl, c11⟩ := C
  obtain ⟨rfl, x2, x3⟩ := X
  have cw : CallB R s args own i y b nL ret (wsy y b nL ret) rm rm.cells rm.slots n ∧ (Cond.static y).before args s = true := ⟨callB_of n c5 (tb_wsy f5) rfl rfl rfl (c5 _ f4) (c5 _ f1) f6 hR.1, c5 _ f2⟩
  refine after_callX (vx_runS (As := As) (rest := rest) ⟨c1, c2, c3, c4, c5⟩ (hM l rfl x3) cw ⟨vaPc_blind, fun U hU hW => ⟨rfl, PW.now hh c6 c7 hS hU hW⟩⟩ rfl hn hl.1 hst (lv_room hcat) d hR.2) hS c11 (fun E ce q9 h' H1 locs1 hx hh1 hS1 g1 g2 g3 => ?_) fun v h' H1 locs1 hp hh1 hS1 => ?_
  · exact vx_out (fun z hz => (x2 z hz).elim) c8 g1 g2 g3 (fun t ht ha => ⟨⟨h', hxx E h' hx, by rw [ht]; exact hh1⟩, hS1.F ht⟩) (fun z hz => hS1.2.2 z hz) hR.2.1 hR.2.2
  · exact kk v h' hp H1 locs1 ls hh1 hS1 hl
/-- a static call of a method with handlers that lets nothing through -/
theorem r_callSH (C : cxOk G own cc R0 n0 x) {hd : List (Nat × Nat × Nat × Nat)} (d : dn cc pc (.invokestatic i) 3 nx) (F : okSH own i y b nL ret hd n) (hM : ∀ l, cxL l x → MH l G y b nL ret hd rm As h post) (hn : As.length = n) (hst : st = As.reverse ++ rest) (hcat : (rest.map fun v => v.category).sum ≤ 8) (hR : rmIn rm R0 nL n1 n2)
    (kk : ∀ v h', post v h' → VV G x (n1 + rm.cells) (n2 + rm.slots) h' nx lv (v.toList ++ rest)) : VV G x n1 n2 h pc lv st := by
  obtain ⟨p, l, e, R, s, m, args, below, meth, c, Q, n'⟩ := x
  obtain ⟨d, rfl⟩ := d
  obtain ⟨f1, f2, f4, f5, f6⟩ := F
  intro H locs ls hh hS hl
  obtain ⟨c1, c2, c3, c4, c5, c6, c7, c8, rfl, rfl, c11⟩ := C
  have hG2 : GoodIn TB (va_wsS own i y (wsh y b nL ret hd)) := by
    intro w hw
    have hm : w ∈ TB := by
      rcases List.mem_append.mp hw with q | q
      · simp only [List.mem_cons, List.not_mem_nil, or_false] at q
        rcases q with q | q | q
        · rw [q]; exact f1
        · rw [q]; exact f2
        · rw [q]; exact f4
      · exact (tb_wsh f5 w q).1
    exact ⟨hm, good_of_word (tb_good hm)⟩
  have cw := vx_cwSW (R := R) (s := s) (args := args) (rm := rm) (mc := rm.cells) (ms := rm.slots) n c5 hG2 rfl rfl rfl f6 hR.1
  refine after_callX (vx_runSX (As := As) (rest := rest) ⟨c1, c2, c3, c4, c5⟩ (hM l rfl) cw ⟨vaPc_blind, fun U hU hW => ⟨rfl, PW.now hh c6 c7 hS hU hW⟩⟩ rfl hn hl.1 hst (lv_room hcat) d hR.2) hS c11 (fun E ce q9 h' H1 locs1 hx hh1 hS1 g1 g2 g3 => hx.elim) fun v h' H1 locs1 hp hh1 hS1 => ?_
  exact kk v h' hp H1 locs1 ls hh1 hS1 hl
end CROWS
/-! throws and handlers -/
theorem hH.grow {G : eG} {h : hp} {H H1 : Heap} (hh : hH G h H) (z : H.size ≤ H1.size) (oq : ∀ q : Nat, q < H.size → H1[q]? = H[q]?) : hH G h H1 :=
  ⟨Nat.le_trans hh.1 z, fun a e he => ⟨(hh.2 a e he).1, (hh.2 a e he).2.kept (oq a (hh.lt he))⟩⟩
def exP : List String := ["java/lang/RuntimeException", "java/lang/Exception"]
def thOk (ik ic : Nat) (cls : String) : Prop := Bundle.fit cls = true ∧ Cond.classLink RX6 ik cls ∈ TB ∧ Cond.initialized cls ∈ TB ∧ (∀ w ∈ (vx_atS RX6 ic cls exP).filter goodWord, w ∈ lw_tbl) ∧ (∀ w ∈ (vx_atS RX6 ic cls exP).filter (fun w => !goodWord w), w ∈ exD.map Cond.declares ++ exN.map (fun E => Cond.castable E E)) ∧ (∀ w ∈ Cond.classLink RX6 ik cls :: Cond.initialized cls :: vx_atS RX6 ic cls exP, vx_ot w = true)
theorem exP_fit : ∀ n ∈ exP, Bundle.fit n = true := by decide +kernel
section TH
variable {G : eG} {x : CX} {n1 n2 : Nat} {h : hp} {pc nx p1 p2 p3 p4 p5 : Nat} {lv : List (Nat × Value)} {rest st : List Value} {own : String} {cc : ByteArray} {R0 rm : Room} {n0 nL : Nat} {post : Option Value → hp → Prop} {xp : String → hp → Prop} {i a ci n : Nat} {As : List Value} {y : MethodName} {b : ByteArray} {ret : Option FieldType}
theorem r_throw (C : cxOk G RX6 cc R0 n0 x) (X : cxX G post xp R0.cells R0.slots x) {ik is ic : Nat} {cls : String} (d0 : dn cc pc (.new ik) 3 p1) (d1 : dn cc p1 .dup 1 p2) (d2 : dn cc p2 (.ldc is) 2 p3) (d3 : dn cc p3 (.invokespecial ic) 3 p4) (d4 : dn cc p4 .athrow 1 p5) (F : thOk ik ic cls) {text : String} (hst : (is, text) ∈ strs)
    (hR : 5 < R0.frames ∧ (st.map fun v => v.category).sum + 82 ≤ R0.locals ∧ n1 + 1 ≤ R0.cells ∧ n2 + 6 ≤ R0.slots) (hx : xp cls h) : VV G x n1 n2 h pc lv st := by
  obtain ⟨p, l, e, R, s, m, args, below, meth, c, Q, n'⟩ := x
  obtain ⟨d0, rfl⟩ := d0
  obtain ⟨d1, rfl⟩ := d1
  obtain ⟨d2, rfl⟩ := d2
  obtain ⟨d3, rfl⟩ := d3
  obtain ⟨d4, rfl⟩ := d4
  obtain ⟨f1, f2, f3, f4, f5, f6⟩ := F
  intro H locs ls hh hS hl
  obtain ⟨c1, c2, c3, c4, c5, c6, c7, c8, rfl, rfl, c11⟩ := C
  obtain ⟨rfl, x2, x3⟩ := X
  obtain ⟨sa, hsa⟩ := c6.2.1 _ hst
  have hat : ∀ w ∈ vx_atS RX6 ic cls exP, w.before args s = true := by
    refine vx_hat (B := exD.map Cond.declares ++ exN.map (fun E => Cond.castable E E)) (fun w hw => c5 w (List.mem_filter.mpr ⟨f4 w hw, (List.mem_filter.mp hw).2⟩)) f5 ?_
    intro w hw
    rcases List.mem_append.mp hw with hw | hw
    · obtain ⟨y, hy, rfl⟩ := List.mem_map.mp hw
      exact va_Nw.use rfl (c6.2.2.2.2.2.2.2.1 y hy)
    · obtain ⟨y, hy, rfl⟩ := List.mem_map.mp hw
      exact va_Nw.use rfl (c6.2.2.2.2.2.2.2.2 y hy)
  refine vx_throwS c1 c2 x3 c4 f1 exP_fit (c5 _ f2) (c5 _ f3) hsa hat f6 c7.1 c7.2 hS (hl.1.trans c3.symm) d0 d1 d2 d3 d4 (fun z hz => (x2 z hz).elim) hR.1 hR.2.1 hR.2.2.1 hR.2.2.2 c8 (fun t ha hz hq => ⟨⟨h, hx, hh.grow hz hq⟩, Nat.le_trans hS.1 hz, fun q y1 y2 => ?_⟩) (fun z hz => hS.2.2 z hz) hR.2.2.1 hR.2.2.2
  rw [hq q (Nat.lt_of_lt_of_le y1 hS.1)]
  exact hS.2.1 q y1 y2
/-- the rows of a table ahead of one don't take E; that one does -/
def caOk (hd : List (Nat × Nat × Nat × Nat)) (own : String) (pc : Nat) (E : String) (tgt : Nat) : Prop := ∃ (pre : List ExceptionTableEntry) (z : ExceptionTableEntry) (suf : List ExceptionTableEntry), tableOf hd = pre ++ z :: suf ∧ (∀ w ∈ pre, w.catchType ≠ 0 ∧ ∃ nm : String, Cond.classLink own w.catchType nm ∈ TB ∧ nm ∈ exF ∧ E ≠ nm) ∧ covers z pc = true ∧ z.catchType ≠ 0 ∧ Cond.classLink own z.catchType E ∈ TB ∧ E ∈ exN ∧ z.handlerPc = tgt
theorem r_callVH (C : cxOk G own cc R0 n0 x) {hd : List (Nat × Nat × Nat × Nat)} (X : cxH hd x) (hlf : ∀ l, cxL l x → l.stackTraces = false) (d : dn cc pc (.invokevirtual i) 3 nx) (F : okV own i y b nL ret n) (hM : ∀ l, l.stackTraces = false → MX l G y b nL ret rm (.ref a :: As) h post xp) {fs : List Value} {r : vw_C} (he : h a = some (.inr (ci, fs))) (hc : vwCl[ci]? = some r) (hcy : r.1 = y.cls) (hn : As.length = n) (hst : st = As.reverse ++ .ref a :: rest) (hcat : (rest.map fun v => v.category).sum ≤ 8) (hR : rmIn rm R0 nL n1 n2)
    (kx : ∀ E h', xp E h' → ∃ tgt, caOk hd own pc E tgt ∧ ∀ q, VV G x (n1 + rm.cells) (n2 + rm.slots) h' tgt lv [.ref q])
    (kk : ∀ v h', post v h' → VV G x (n1 + rm.cells) (n2 + rm.slots) h' nx lv (v.toList ++ rest)) : VV G x n1 n2 h pc lv st := by
  obtain ⟨p, l, e, R, s, m, args, below, meth, c, Q, n'⟩ := x
  obtain ⟨d, rfl⟩ := d
  obtain ⟨f1, f2, f3, f4, f5, f6⟩ := F
  intro H locs ls hh hS hl
  obtain ⟨c1, c2, c3, c4, c5, c6, c7, c8, rfl, rfl, c11⟩ := C
  have cw : CallW R s args own y.cls i y b nL ret (wsy y b nL ret) rm rm.cells rm.slots n := ⟨callB_of n c5 (tb_wsy f5) rfl rfl rfl (c5 _ f4) (c5 _ f1) f6 hR.1, c5 _ f2, c5 _ f3⟩
  refine after_callX (vx_runV (As := As) (rest := rest) ⟨c1, c2, c3, c4, c5⟩ (hM l (hlf l rfl)) cw ⟨vaPc_blind, by rw [← hcy]; exact rc_of hh c6 he hc, fun U hU hW => ⟨rfl, PW.now hh c6 c7 hS hU hW⟩⟩ rfl hn hl.1 hst (lv_room hcat) d hR.2) hS c11 (fun E ce q9 h' H1 locs1 hx hh1 hS1 g1 g2 g3 => ?_) fun v h' H1 locs1 hp hh1 hS1 => ?_
  · obtain ⟨tgt, ⟨pre, z, suf, k1, k2, k3, k4, k5, k7, k8⟩, kv⟩ := kx E h' hx
    subst k8
    exact vx_catch c4 pre z suf (X.trans k1) (fun w hw => Or.inr ⟨(k2 w hw).1, by
      obtain ⟨nm, j1, j2, j3⟩ := (k2 w hw).2
      exact ⟨nm, c5 _ j1, c6.2.2.2.2.2.2.1 E k7 nm j2 j3⟩⟩) k3 k4 (c5 _ k5) (va_Nw.use rfl (c6.2.2.2.2.2.2.2.2 E k7)) g1 g2 g3 (kv q9 H1 locs1 ls hh1 hS1 hl)
  · exact kk v h' hp H1 locs1 ls hh1 hS1 hl
/-- a thrown thing put away -/
theorem r_pack (C : cxOk G own cc R0 n0 x) : True := trivial
end TH
