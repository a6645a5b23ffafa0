/-! THE LAYER: pure heaps, one judgement VV, a row an instruction -/
abbrev hp : Type := Nat → Option va_E
def hup (h : hp) (a : Nat) (e : va_E) : hp := fun b => if b = a then some e else h b
theorem hup_s {h : hp} {a : Nat} {e : va_E} : hup h a e a = some e := by simp [hup]
theorem hup_n {h : hp} {a b : Nat} {e : va_E} (n : b ≠ a) : hup h a e b = h b := by simp [hup, n]
abbrev eG : Type := va_G × (Nat → ClassId) × Nat
abbrev eB (G : eG) : Nat := G.2.2
def tyL (G : eG) : List (ClassId × FieldType) := [(G.2.1 0, .int), (G.2.1 1, .long), (G.2.1 2, .byte), (G.2.1 3, .object RX0), (G.2.1 4, .object RX1), (G.2.1 5, .object RX3), (G.2.1 6, .object RX4)]
abbrev aI (G : eG) (n : Nat) (f : Nat → Int32) : va_E := .inl (G.2.1 0, n, .inl f)
abbrev aJ (G : eG) (n : Nat) (f : Nat → Int64) : va_E := .inl (G.2.1 1, n, .inr (.inl f))
abbrev aZ (G : eG) (n : Nat) (f : Nat → Int32) : va_E := .inl (G.2.1 2, n, .inl f)
abbrev aR (G : eG) (k n : Nat) (f : Nat → Option Nat) : va_E := .inl (G.2.1 k, n, .inr (.inr (.inr (.inr f))))
abbrev oC (ci : Nat) (fs : List Value) : va_E := .inr (ci, fs)
def eA (G : eG) : Nat → Prop := fun q => eB G ≤ q
def hH (G : eG) (h : hp) (H : Heap) : Prop := eB G ≤ H.size ∧ ∀ (a : Nat) (e : va_E), h a = some e → eB G ≤ a ∧ va_at G.1 vwCl (a, e) H
theorem hH.lt {G : eG} {h : hp} {H : Heap} (hh : hH G h H) {a : Nat} {e : va_E} (he : h a = some e) : a < H.size := (hh.2 a e he).2.lt
theorem hH.sub {G : eG} {h h' : hp} {H : Heap} (hh : hH G h H) (hs : ∀ a e, h' a = some e → h a = some e) : hH G h' H := ⟨hh.1, fun a e he => hh.2 a e (hs a e he)⟩
theorem hH.fresh {G : eG} {h : hp} {H : Heap} (hh : hH G h H) : h H.size = none := by
  cases he : h H.size with
  | none => rfl
  | some e => exact absurd (hh.lt he) (Nat.lt_irrefl _)
theorem hH.put {G : eG} {h : hp} {H H1 : Heap} {a : Nat} {e0 e : va_E} (hh : hH G h H) (h0 : h a = some e0) (z : H1.size = H.size) (oq : ∀ q : Nat, q ≠ a → H1[q]? = H[q]?) (he : va_at G.1 vwCl (a, e) H1) : hH G (hup h a e) H1 := by
  refine ⟨by rw [z]; exact hh.1, fun b e1 hb => ?_⟩
  by_cases hba : b = a
  · subst hba
    rw [hup_s] at hb
    cases hb
    exact ⟨(hh.2 b e0 h0).1, he⟩
  · rw [hup_n hba] at hb
    obtain ⟨x1, x2⟩ := hh.2 b e1 hb
    exact ⟨x1, x2.kept (oq b hba)⟩
theorem hH.new {G : eG} {h : hp} {H H1 : Heap} {e : va_E} (hh : hH G h H) (z : H1.size = H.size + 1) (oq : ∀ q : Nat, q < H.size → H1[q]? = H[q]?) (he : va_at G.1 vwCl (H.size, e) H1) : hH G (hup h H.size e) H1 := by
  refine ⟨by rw [z]; exact Nat.le_succ_of_le hh.1, fun b e1 hb => ?_⟩
  by_cases hba : b = H.size
  · subst hba
    rw [hup_s] at hb
    cases hb
    exact ⟨hh.1, he⟩
  · rw [hup_n hba] at hb
    obtain ⟨x1, x2⟩ := hh.2 b e1 hb
    exact ⟨x1, x2.kept (oq b (hh.lt hb))⟩
def strs : List (Nat × String) := [(231, "no such side"), (228, "an argument is out of its range"), (66, "the side is full"), (75, "the side has no tokens"), (90, "no such sentence"), (97, "no such token"), (237, "the pile has no room for a test"), (239, "too few parts"), (244, "the part is no test"), (160, "too many tests"), (166, "not just one part, or too many patterns"), (233, "no such pattern"), (235, "no such result"), (191, "results of unlike sides"), (215, "no such match"), (224, "no such group")]
/-- what the law catches -/
def exF : List String := ["java/lang/IllegalStateException"]
def exN : List String := ["java/lang/IndexOutOfBoundsException", "java/lang/IllegalArgumentException", "java/lang/IllegalStateException"]
def exD : List MethodName := [⟨"java/lang/RuntimeException", "<init>", "(Ljava/lang/String;)V"⟩, ⟨"java/lang/Exception", "<init>", "(Ljava/lang/String;)V"⟩, ⟨"java/lang/Throwable", "<init>", "(Ljava/lang/String;)V"⟩]
def gK (G : eG) (U : State) : Prop := va_K G.1 vwCl (tyL G) U ∧ (∀ q ∈ strs, ∃ sa, vk_R RX6 q.1 q.2 sa U) ∧ (va_AO RX0 U ∧ va_AO RX1 U ∧ va_AO RX3 U ∧ va_AO RX4 U) ∧ va_Nw (.methodLinkNest RX6 42 yX5_init RX6) U ∧ va_Nw (.methodLinkNest RX6 51 yX3_init RX6) U ∧ va_Nw (.methodLinkNest RX6 52 yX1_init RX6) U ∧ (∀ E ∈ exN, ∀ F ∈ exF, E ≠ F → va_Nc E F U) ∧ (∀ y ∈ exD, va_Nw (.declares y) U) ∧ ∀ E ∈ exN, va_Nw (.castable E E) U
theorem gK.warm {G : eG} {s U : State} (hW : s.WarmedH U.vm) (h : gK G s) : gK G U := by
  obtain ⟨h1, h2, ⟨h3, h4, h5, h6⟩, h7, h8, h9, h10, h11, h12⟩ := h
  refine ⟨h1.moved hW.alike, fun q hq => ?_, ⟨va_AO.moved hW.alike h3, va_AO.moved hW.alike h4, va_AO.moved hW.alike h5, va_AO.moved hW.alike h6⟩, va_Nw.warmM hW h7, va_Nw.warmM hW h8, va_Nw.warmM hW h9, fun E hE F hF n => va_Nc.moved hW.alike (h10 E hE F hF n), fun y hy => va_Nw.warmD hW (h11 y hy), fun E hE => va_Nw.warmC hW (h12 E hE)⟩
  obtain ⟨sa, hs⟩ := h2 q hq
  exact ⟨sa, hs.warm hW⟩
theorem gK.same {G : eG} {u U : State} (hv : U.vm = u.vm) (h : gK G u) : gK G U := gK.warm (by rw [hv]; exact State.WarmedH.refl u) h
def gZ (G : eG) (U : State) (H : Heap) : Prop := vx_Zq Bundle.tN "UNASSIGNED_STACK" Bundle.steD (eA G) U H ∧ vx_Zq Bundle.tN "SUPPRESSED_SENTINEL" Bundle.listD (eA G) U H
def PW (G : eG) (h : hp) (U : State) : Prop := hH G h U.heap ∧ gK G U ∧ gZ G U U.heap
theorem PW.calling {G : eG} {h : hp} {U : State} {g : JFrame} {mk : MethodId} {a : Array Value} (w : PW G h U) : PW G h (U.calling g mk a) :=
  ⟨w.1, gK.same (u := U) rfl w.2.1, vx_Zq.moved (u := U) (Vm.Alike.refl U.vm) w.2.2.1, vx_Zq.moved (u := U) (Vm.Alike.refl U.vm) w.2.2.2⟩
/-- a machine at work in a method: all that doesn't change from one instruction to the next -/
abbrev CX : Type := Program × Launch × Env × Room × State × MethodId × Array Value × List Frame × Method × Code × (State → Prop) × Nat
def VV (G : eG) : CX → Nat → Nat → hp → Nat → List (Nat × Value) → List Value → Prop
  | (p, l, e, R, s, m, args, below, meth, c, Q, nL), n1, n2, h, pc, lv, st => ∀ (H : Heap) (locs : List Loc) (ls : Array Slot), hH G h H → va_S (eA G) s.heap H locs → lv_has ls nL lv → W p l e R s m args below meth c H locs n1 n2 Q (F0 m pc ls st)
/-- what stands in a method's body: its code, its class, its table's words, its answer's type, its room, its locals -/
def cxOk (G : eG) (own : String) (cc : ByteArray) (rm : Room) (nL : Nat) : CX → Prop
  | (p, l, e, R, s, m, args, below, meth, c, Q, n) => p.tables.exec = Jvm.exec ∧ c.code = cc ∧ c.maxLocals = n ∧ s.vm.findClass own = some m.cls ∧ (∀ w ∈ TB, w.before args s = true) ∧ gK G s ∧ gZ G s s.heap ∧ meth.locks = false ∧ R = rm ∧ n = nL ∧ eB G ≤ s.heap.size
section ROWS
variable {G : eG} {x : CX} {n1 n2 : Nat} {h : hp} {pc nx : Nat} {lv : List (Nat × Value)} {st : List Value} {own : String} {cc : ByteArray} {rm : Room} {nL : Nat}

theorem r_iconst (C : cxOk G own cc rm nL x) {i : Int} {v : Int32} (d : dn cc pc (.iconst i) 1 nx) (hv : Int32.ofInt i = v)
    (kk : VV G x n1 n2 h nx lv (.int v :: st)) : VV G x n1 n2 h pc lv (st) := by
  obtain ⟨p, l, e, R, s, m, args, below, meth, c, Q, n⟩ := x
  obtain ⟨d, rfl⟩ := d
  intro H locs ls hh hS hl
  exact lv_iconst C.1 C.2.1 d hv (kk H locs ls hh hS hl)
theorem r_bipush (C : cxOk G own cc rm nL x) {i : Int} {v : Int32} (d : dn cc pc (.bipush i) 2 nx) (hv : (Int8.ofInt i).toInt32 = v)
    (kk : VV G x n1 n2 h nx lv (.int v :: st)) : VV G x n1 n2 h pc lv (st) := by
  obtain ⟨p, l, e, R, s, m, args, below, meth, c, Q, n⟩ := x
  obtain ⟨d, rfl⟩ := d
  intro H locs ls hh hS hl
  exact lv_bipush C.1 C.2.1 d hv (kk H locs ls hh hS hl)
theorem r_sipush (C : cxOk G own cc rm nL x) {i : Int} {v : Int32} (d : dn cc pc (.sipush i) 3 nx) (hv : (Int16.ofInt i).toInt32 = v)
    (kk : VV G x n1 n2 h nx lv (.int v :: st)) : VV G x n1 n2 h pc lv (st) := by
  obtain ⟨p, l, e, R, s, m, args, below, meth, c, Q, n⟩ := x
  obtain ⟨d, rfl⟩ := d
  intro H locs ls hh hS hl
  exact lv_sipush C.1 C.2.1 d hv (kk H locs ls hh hS hl)
theorem r_lconst (C : cxOk G own cc rm nL x) {i : Fin 2} {v : Int64} (d : dn cc pc (.lconst i) 1 nx) (hv : Int64.ofNat (i : Nat) = v)
    (kk : VV G x n1 n2 h nx lv (.long v :: st)) : VV G x n1 n2 h pc lv (st) := by
  obtain ⟨p, l, e, R, s, m, args, below, meth, c, Q, n⟩ := x
  obtain ⟨d, rfl⟩ := d
  intro H locs ls hh hS hl
  exact lv_lconst C.1 C.2.1 d hv (kk H locs ls hh hS hl)
theorem r_null (C : cxOk G own cc rm nL x) (d : dn cc pc (.aconst_null) 1 nx) 
    (kk : VV G x n1 n2 h nx lv (.null :: st)) : VV G x n1 n2 h pc lv (st) := by
  obtain ⟨p, l, e, R, s, m, args, below, meth, c, Q, n⟩ := x
  obtain ⟨d, rfl⟩ := d
  intro H locs ls hh hS hl
  exact lv_null C.1 C.2.1 d (kk H locs ls hh hS hl)
theorem r_ldc (C : cxOk G own cc rm nL x) {i : Nat} {v : Int32} (d : dn cc pc (.ldc i) 2 nx) (hc : Jvm.Cond.constant own i v ∈ TB)
    (kk : VV G x n1 n2 h nx lv (.int v :: st)) : VV G x n1 n2 h pc lv (st) := by
  obtain ⟨p, l, e, R, s, m, args, below, meth, c, Q, n⟩ := x
  obtain ⟨d, rfl⟩ := d
  intro H locs ls hh hS hl
  exact lv_ldc C.1 C.2.1 C.2.2.2.1 (C.2.2.2.2.1 _ hc) d (kk H locs ls hh hS hl)
theorem r_ldc2 (C : cxOk G own cc rm nL x) {i : Nat} {v : Int64} (d : dn cc pc (.ldc2_w i) 3 nx) (hc : Jvm.Cond.constantLong own i v ∈ TB)
    (kk : VV G x n1 n2 h nx lv (.long v :: st)) : VV G x n1 n2 h pc lv (st) := by
  obtain ⟨p, l, e, R, s, m, args, below, meth, c, Q, n⟩ := x
  obtain ⟨d, rfl⟩ := d
  intro H locs ls hh hS hl
  exact lv_ldc2 C.1 C.2.1 C.2.2.2.1 (C.2.2.2.2.1 _ hc) d (kk H locs ls hh hS hl)
theorem r_iload_n (C : cxOk G own cc rm nL x) {i : Fin 4} {v : Int32} (d : dn cc pc (.iload_n i) 1 nx) (j : Nat) (hk : lv[j]? = some ((i : Nat), .int v))
    (kk : VV G x n1 n2 h nx lv (.int v :: st)) : VV G x n1 n2 h pc lv (st) := by
  obtain ⟨p, l, e, R, s, m, args, below, meth, c, Q, n⟩ := x
  obtain ⟨d, rfl⟩ := d
  intro H locs ls hh hS hl
  exact lv_iload_n C.1 C.2.1 d rfl (lv_at hl j hk) (kk H locs ls hh hS hl)
theorem r_iload (C : cxOk G own cc rm nL x) {i : Nat} {v : Int32} (d : dn cc pc (.iload i) 2 nx) (j : Nat) (hk : lv[j]? = some (i, .int v))
    (kk : VV G x n1 n2 h nx lv (.int v :: st)) : VV G x n1 n2 h pc lv (st) := by
  obtain ⟨p, l, e, R, s, m, args, below, meth, c, Q, n⟩ := x
  obtain ⟨d, rfl⟩ := d
  intro H locs ls hh hS hl
  exact lv_iload C.1 C.2.1 d (lv_at hl j hk) (kk H locs ls hh hS hl)
theorem r_lload_n (C : cxOk G own cc rm nL x) {i : Fin 4} {v : Int64} (d : dn cc pc (.lload_n i) 1 nx) (j : Nat) (hk : lv[j]? = some ((i : Nat), .long v))
    (kk : VV G x n1 n2 h nx lv (.long v :: st)) : VV G x n1 n2 h pc lv (st) := by
  obtain ⟨p, l, e, R, s, m, args, below, meth, c, Q, n⟩ := x
  obtain ⟨d, rfl⟩ := d
  intro H locs ls hh hS hl
  exact lv_lload_n C.1 C.2.1 d rfl (lv_at hl j hk) (kk H locs ls hh hS hl)
theorem r_lload (C : cxOk G own cc rm nL x) {i : Nat} {v : Int64} (d : dn cc pc (.lload i) 2 nx) (j : Nat) (hk : lv[j]? = some (i, .long v))
    (kk : VV G x n1 n2 h nx lv (.long v :: st)) : VV G x n1 n2 h pc lv (st) := by
  obtain ⟨p, l, e, R, s, m, args, below, meth, c, Q, n⟩ := x
  obtain ⟨d, rfl⟩ := d
  intro H locs ls hh hS hl
  exact lv_lload C.1 C.2.1 d (lv_at hl j hk) (kk H locs ls hh hS hl)
theorem r_aload_n (C : cxOk G own cc rm nL x) {i : Fin 4} {v : Nat} (d : dn cc pc (.aload_n i) 1 nx) (j : Nat) (hk : lv[j]? = some ((i : Nat), .ref v))
    (kk : VV G x n1 n2 h nx lv (.ref v :: st)) : VV G x n1 n2 h pc lv (st) := by
  obtain ⟨p, l, e, R, s, m, args, below, meth, c, Q, n⟩ := x
  obtain ⟨d, rfl⟩ := d
  intro H locs ls hh hS hl
  exact lv_aload_n C.1 C.2.1 d rfl (lv_at hl j hk) (kk H locs ls hh hS hl)
theorem r_aload (C : cxOk G own cc rm nL x) {i : Nat} {v : Nat} (d : dn cc pc (.aload i) 2 nx) (j : Nat) (hk : lv[j]? = some (i, .ref v))
    (kk : VV G x n1 n2 h nx lv (.ref v :: st)) : VV G x n1 n2 h pc lv (st) := by
  obtain ⟨p, l, e, R, s, m, args, below, meth, c, Q, n⟩ := x
  obtain ⟨d, rfl⟩ := d
  intro H locs ls hh hS hl
  exact lv_aload C.1 C.2.1 d (lv_at hl j hk) (kk H locs ls hh hS hl)
theorem r_istore_n (C : cxOk G own cc rm nL x) {i : Fin 4} {v : Int32} (d : dn cc pc (.istore_n i) 1 nx) {lv' : List (Nat × Value)} (hn : (i : Nat) < nL) (hl2 : ((i : Nat), Value.int v) :: lv.filter (fun q => !(q.1 == (i : Nat)) && !(q.1 + 1 == (i : Nat) && q.2.category == 2)) = lv')
    (kk : VV G x n1 n2 h nx lv' (st)) : VV G x n1 n2 h pc lv (.int v :: st) := by
  obtain ⟨p, l, e, R, s, m, args, below, meth, c, Q, n⟩ := x
  obtain ⟨d, rfl⟩ := d
  intro H locs ls hh hS hl
  obtain ⟨c1, c2, c3, c4, c5, c6, c7, c8, c9, rfl, c11⟩ := C
  exact lv_istore_n c1 c2 d rfl hl hn hl2 (fun ls hl => kk H locs ls hh hS hl)
theorem r_istore (C : cxOk G own cc rm nL x) {i : Nat} {v : Int32} (d : dn cc pc (.istore i) 2 nx) {lv' : List (Nat × Value)} (hn : i < nL) (hl2 : (i, Value.int v) :: lv.filter (fun q => !(q.1 == i) && !(q.1 + 1 == i && q.2.category == 2)) = lv')
    (kk : VV G x n1 n2 h nx lv' (st)) : VV G x n1 n2 h pc lv (.int v :: st) := by
  obtain ⟨p, l, e, R, s, m, args, below, meth, c, Q, n⟩ := x
  obtain ⟨d, rfl⟩ := d
  intro H locs ls hh hS hl
  obtain ⟨c1, c2, c3, c4, c5, c6, c7, c8, c9, rfl, c11⟩ := C
  exact lv_istore c1 c2 d hl hn hl2 (fun ls hl => kk H locs ls hh hS hl)
theorem r_astore_n (C : cxOk G own cc rm nL x) {i : Fin 4} {v : Nat} (d : dn cc pc (.astore_n i) 1 nx) {lv' : List (Nat × Value)} (hn : (i : Nat) < nL) (hl2 : ((i : Nat), Value.ref v) :: lv.filter (fun q => !(q.1 == (i : Nat)) && !(q.1 + 1 == (i : Nat) && q.2.category == 2)) = lv')
    (kk : VV G x n1 n2 h nx lv' (st)) : VV G x n1 n2 h pc lv (.ref v :: st) := by
  obtain ⟨p, l, e, R, s, m, args, below, meth, c, Q, n⟩ := x
  obtain ⟨d, rfl⟩ := d
  intro H locs ls hh hS hl
  obtain ⟨c1, c2, c3, c4, c5, c6, c7, c8, c9, rfl, c11⟩ := C
  exact lv_astore_n c1 c2 d rfl hl hn hl2 (fun ls hl => kk H locs ls hh hS hl)
theorem r_astore (C : cxOk G own cc rm nL x) {i : Nat} {v : Nat} (d : dn cc pc (.astore i) 2 nx) {lv' : List (Nat × Value)} (hn : i < nL) (hl2 : (i, Value.ref v) :: lv.filter (fun q => !(q.1 == i) && !(q.1 + 1 == i && q.2.category == 2)) = lv')
    (kk : VV G x n1 n2 h nx lv' (st)) : VV G x n1 n2 h pc lv (.ref v :: st) := by
  obtain ⟨p, l, e, R, s, m, args, below, meth, c, Q, n⟩ := x
  obtain ⟨d, rfl⟩ := d
  intro H locs ls hh hS hl
  obtain ⟨c1, c2, c3, c4, c5, c6, c7, c8, c9, rfl, c11⟩ := C
  exact lv_astore c1 c2 d hl hn hl2 (fun ls hl => kk H locs ls hh hS hl)
theorem r_lstore_n (C : cxOk G own cc rm nL x) {i : Fin 4} {v : Int64} (d : dn cc pc (.lstore_n i) 1 nx) {lv' : List (Nat × Value)} (hn : (i : Nat) + 1 < nL) (hl2 : ((i : Nat), Value.long v) :: lv.filter (fun q => !(q.1 == (i : Nat)) && (!(q.1 == (i : Nat) + 1) && !(q.1 + 1 == (i : Nat) && q.2.category == 2))) = lv')
    (kk : VV G x n1 n2 h nx lv' (st)) : VV G x n1 n2 h pc lv (.long v :: st) := by
  obtain ⟨p, l, e, R, s, m, args, below, meth, c, Q, n⟩ := x
  obtain ⟨d, rfl⟩ := d
  intro H locs ls hh hS hl
  obtain ⟨c1, c2, c3, c4, c5, c6, c7, c8, c9, rfl, c11⟩ := C
  exact lv_lstore_n c1 c2 d rfl hl hn hl2 (fun ls hl => kk H locs ls hh hS hl)
theorem r_lstore (C : cxOk G own cc rm nL x) {i : Nat} {v : Int64} (d : dn cc pc (.lstore i) 2 nx) {lv' : List (Nat × Value)} (hn : i + 1 < nL) (hl2 : (i, Value.long v) :: lv.filter (fun q => !(q.1 == i) && (!(q.1 == i + 1) && !(q.1 + 1 == i && q.2.category == 2))) = lv')
    (kk : VV G x n1 n2 h nx lv' (st)) : VV G x n1 n2 h pc lv (.long v :: st) := by
  obtain ⟨p, l, e, R, s, m, args, below, meth, c, Q, n⟩ := x
  obtain ⟨d, rfl⟩ := d
  intro H locs ls hh hS hl
  obtain ⟨c1, c2, c3, c4, c5, c6, c7, c8, c9, rfl, c11⟩ := C
  exact lv_lstore c1 c2 d hl hn hl2 (fun ls hl => kk H locs ls hh hS hl)
theorem r_iinc (C : cxOk G own cc rm nL x) {i : Nat} {k : Int} {a v : Int32} (d : dn cc pc (.iinc i k) 3 nx) {lv' : List (Nat × Value)} (j : Nat) (hk : lv[j]? = some (i, .int a)) (hv : a + Int32.ofInt k = v) (hn : i < nL) (hl2 : (i, Value.int v) :: lv.filter (fun q => !(q.1 == i) && !(q.1 + 1 == i && q.2.category == 2)) = lv')
    (kk : VV G x n1 n2 h nx lv' (st)) : VV G x n1 n2 h pc lv (st) := by
  obtain ⟨p, l, e, R, s, m, args, below, meth, c, Q, n⟩ := x
  obtain ⟨d, rfl⟩ := d
  intro H locs ls hh hS hl
  obtain ⟨c1, c2, c3, c4, c5, c6, c7, c8, c9, rfl, c11⟩ := C
  exact lv_iinc c1 c2 d hl hk hv hn hl2 (fun ls hl => kk H locs ls hh hS hl)
theorem r_iadd (C : cxOk G own cc rm nL x) {a b : Int32} (d : dn cc pc (.iadd) 1 nx) 
    (kk : VV G x n1 n2 h nx lv (.int (a + b) :: st)) : VV G x n1 n2 h pc lv (.int b :: .int a :: st) := by
  obtain ⟨p, l, e, R, s, m, args, below, meth, c, Q, n⟩ := x
  obtain ⟨d, rfl⟩ := d
  intro H locs ls hh hS hl
  exact lv_iadd C.1 C.2.1 d (kk H locs ls hh hS hl)
theorem r_isub (C : cxOk G own cc rm nL x) {a b : Int32} (d : dn cc pc (.isub) 1 nx) 
    (kk : VV G x n1 n2 h nx lv (.int (a - b) :: st)) : VV G x n1 n2 h pc lv (.int b :: .int a :: st) := by
  obtain ⟨p, l, e, R, s, m, args, below, meth, c, Q, n⟩ := x
  obtain ⟨d, rfl⟩ := d
  intro H locs ls hh hS hl
  exact lv_isub C.1 C.2.1 d (kk H locs ls hh hS hl)
theorem r_imul (C : cxOk G own cc rm nL x) {a b : Int32} (d : dn cc pc (.imul) 1 nx) 
    (kk : VV G x n1 n2 h nx lv (.int (a * b) :: st)) : VV G x n1 n2 h pc lv (.int b :: .int a :: st) := by
  obtain ⟨p, l, e, R, s, m, args, below, meth, c, Q, n⟩ := x
  obtain ⟨d, rfl⟩ := d
  intro H locs ls hh hS hl
  exact lv_imul C.1 C.2.1 d (kk H locs ls hh hS hl)
theorem r_iand (C : cxOk G own cc rm nL x) {a b : Int32} (d : dn cc pc (.iand) 1 nx) 
    (kk : VV G x n1 n2 h nx lv (.int (a &&& b) :: st)) : VV G x n1 n2 h pc lv (.int b :: .int a :: st) := by
  obtain ⟨p, l, e, R, s, m, args, below, meth, c, Q, n⟩ := x
  obtain ⟨d, rfl⟩ := d
  intro H locs ls hh hS hl
  exact lv_iand C.1 C.2.1 d (kk H locs ls hh hS hl)
theorem r_ior (C : cxOk G own cc rm nL x) {a b : Int32} (d : dn cc pc (.ior) 1 nx) 
    (kk : VV G x n1 n2 h nx lv (.int (a ||| b) :: st)) : VV G x n1 n2 h pc lv (.int b :: .int a :: st) := by
  obtain ⟨p, l, e, R, s, m, args, below, meth, c, Q, n⟩ := x
  obtain ⟨d, rfl⟩ := d
  intro H locs ls hh hS hl
  exact lv_ior C.1 C.2.1 d (kk H locs ls hh hS hl)
theorem r_ixor (C : cxOk G own cc rm nL x) {a b : Int32} (d : dn cc pc (.ixor) 1 nx) 
    (kk : VV G x n1 n2 h nx lv (.int (a ^^^ b) :: st)) : VV G x n1 n2 h pc lv (.int b :: .int a :: st) := by
  obtain ⟨p, l, e, R, s, m, args, below, meth, c, Q, n⟩ := x
  obtain ⟨d, rfl⟩ := d
  intro H locs ls hh hS hl
  exact lv_ixor C.1 C.2.1 d (kk H locs ls hh hS hl)
theorem r_ishl (C : cxOk G own cc rm nL x) {a b : Int32} (d : dn cc pc (.ishl) 1 nx) 
    (kk : VV G x n1 n2 h nx lv (.int (a <<< (b &&& 31)) :: st)) : VV G x n1 n2 h pc lv (.int b :: .int a :: st) := by
  obtain ⟨p, l, e, R, s, m, args, below, meth, c, Q, n⟩ := x
  obtain ⟨d, rfl⟩ := d
  intro H locs ls hh hS hl
  exact lv_ishl C.1 C.2.1 d (kk H locs ls hh hS hl)
theorem r_ishr (C : cxOk G own cc rm nL x) {a b : Int32} (d : dn cc pc (.ishr) 1 nx) 
    (kk : VV G x n1 n2 h nx lv (.int (a >>> (b &&& 31)) :: st)) : VV G x n1 n2 h pc lv (.int b :: .int a :: st) := by
  obtain ⟨p, l, e, R, s, m, args, below, meth, c, Q, n⟩ := x
  obtain ⟨d, rfl⟩ := d
  intro H locs ls hh hS hl
  exact lv_ishr C.1 C.2.1 d (kk H locs ls hh hS hl)
theorem r_iushr (C : cxOk G own cc rm nL x) {a b : Int32} (d : dn cc pc (.iushr) 1 nx) 
    (kk : VV G x n1 n2 h nx lv (.int (a.toUInt32 >>> (b.toUInt32 &&& Int32.toUInt32 31)).toInt32 :: st)) : VV G x n1 n2 h pc lv (.int b :: .int a :: st) := by
  obtain ⟨p, l, e, R, s, m, args, below, meth, c, Q, n⟩ := x
  obtain ⟨d, rfl⟩ := d
  intro H locs ls hh hS hl
  exact lv_iushr C.1 C.2.1 d rfl (kk H locs ls hh hS hl)
theorem r_idiv (C : cxOk G own cc rm nL x) {a b : Int32} (d : dn cc pc (.idiv) 1 nx) (hb : ¬ b = 0)
    (kk : VV G x n1 n2 h nx lv (.int (a / b) :: st)) : VV G x n1 n2 h pc lv (.int b :: .int a :: st) := by
  obtain ⟨p, l, e, R, s, m, args, below, meth, c, Q, n⟩ := x
  obtain ⟨d, rfl⟩ := d
  intro H locs ls hh hS hl
  exact lv_idiv C.1 C.2.1 d hb (kk H locs ls hh hS hl)
theorem r_irem (C : cxOk G own cc rm nL x) {a b : Int32} (d : dn cc pc (.irem) 1 nx) (hb : ¬ b = 0)
    (kk : VV G x n1 n2 h nx lv (.int (a - a / b * b) :: st)) : VV G x n1 n2 h pc lv (.int b :: .int a :: st) := by
  obtain ⟨p, l, e, R, s, m, args, below, meth, c, Q, n⟩ := x
  obtain ⟨d, rfl⟩ := d
  intro H locs ls hh hS hl
  exact lv_irem C.1 C.2.1 d hb (kk H locs ls hh hS hl)
theorem r_ineg (C : cxOk G own cc rm nL x) {a : Int32} (d : dn cc pc (.ineg) 1 nx) 
    (kk : VV G x n1 n2 h nx lv (.int (-a) :: st)) : VV G x n1 n2 h pc lv (.int a :: st) := by
  obtain ⟨p, l, e, R, s, m, args, below, meth, c, Q, n⟩ := x
  obtain ⟨d, rfl⟩ := d
  intro H locs ls hh hS hl
  exact lv_ineg C.1 C.2.1 d (kk H locs ls hh hS hl)
theorem r_ladd (C : cxOk G own cc rm nL x) {a b : Int64} (d : dn cc pc (.ladd) 1 nx) 
    (kk : VV G x n1 n2 h nx lv (.long (a + b) :: st)) : VV G x n1 n2 h pc lv (.long b :: .long a :: st) := by
  obtain ⟨p, l, e, R, s, m, args, below, meth, c, Q, n⟩ := x
  obtain ⟨d, rfl⟩ := d
  intro H locs ls hh hS hl
  exact lv_ladd C.1 C.2.1 d (kk H locs ls hh hS hl)
theorem r_land (C : cxOk G own cc rm nL x) {a b : Int64} (d : dn cc pc (.land) 1 nx) 
    (kk : VV G x n1 n2 h nx lv (.long (a &&& b) :: st)) : VV G x n1 n2 h pc lv (.long b :: .long a :: st) := by
  obtain ⟨p, l, e, R, s, m, args, below, meth, c, Q, n⟩ := x
  obtain ⟨d, rfl⟩ := d
  intro H locs ls hh hS hl
  exact lv_land C.1 C.2.1 d (kk H locs ls hh hS hl)
theorem r_lor (C : cxOk G own cc rm nL x) {a b : Int64} (d : dn cc pc (.lor) 1 nx) 
    (kk : VV G x n1 n2 h nx lv (.long (a ||| b) :: st)) : VV G x n1 n2 h pc lv (.long b :: .long a :: st) := by
  obtain ⟨p, l, e, R, s, m, args, below, meth, c, Q, n⟩ := x
  obtain ⟨d, rfl⟩ := d
  intro H locs ls hh hS hl
  exact lv_lor C.1 C.2.1 d (kk H locs ls hh hS hl)
theorem r_lxor (C : cxOk G own cc rm nL x) {a b : Int64} (d : dn cc pc (.lxor) 1 nx) 
    (kk : VV G x n1 n2 h nx lv (.long (a ^^^ b) :: st)) : VV G x n1 n2 h pc lv (.long b :: .long a :: st) := by
  obtain ⟨p, l, e, R, s, m, args, below, meth, c, Q, n⟩ := x
  obtain ⟨d, rfl⟩ := d
  intro H locs ls hh hS hl
  exact lv_lxor C.1 C.2.1 d (kk H locs ls hh hS hl)
theorem r_lushr (C : cxOk G own cc rm nL x) {a : Int64} {b : Int32} (d : dn cc pc (.lushr) 1 nx) 
    (kk : VV G x n1 n2 h nx lv (.long (a.toUInt64 >>> (b.toInt64.toUInt64 &&& Int64.toUInt64 63)).toInt64 :: st)) : VV G x n1 n2 h pc lv (.int b :: .long a :: st) := by
  obtain ⟨p, l, e, R, s, m, args, below, meth, c, Q, n⟩ := x
  obtain ⟨d, rfl⟩ := d
  intro H locs ls hh hS hl
  exact lv_lushr C.1 C.2.1 d rfl (kk H locs ls hh hS hl)
theorem r_lshl (C : cxOk G own cc rm nL x) {a : Int64} {b : Int32} (d : dn cc pc (.lshl) 1 nx) 
    (kk : VV G x n1 n2 h nx lv (.long (a <<< (b.toInt64 &&& 63)) :: st)) : VV G x n1 n2 h pc lv (.int b :: .long a :: st) := by
  obtain ⟨p, l, e, R, s, m, args, below, meth, c, Q, n⟩ := x
  obtain ⟨d, rfl⟩ := d
  intro H locs ls hh hS hl
  exact lv_lshl C.1 C.2.1 d rfl (kk H locs ls hh hS hl)
theorem r_lshr (C : cxOk G own cc rm nL x) {a : Int64} {b : Int32} (d : dn cc pc (.lshr) 1 nx) 
    (kk : VV G x n1 n2 h nx lv (.long (a >>> (b.toInt64 &&& 63)) :: st)) : VV G x n1 n2 h pc lv (.int b :: .long a :: st) := by
  obtain ⟨p, l, e, R, s, m, args, below, meth, c, Q, n⟩ := x
  obtain ⟨d, rfl⟩ := d
  intro H locs ls hh hS hl
  exact lv_lshr C.1 C.2.1 d rfl (kk H locs ls hh hS hl)
theorem r_lcmp (C : cxOk G own cc rm nL x) {a b : Int64} (d : dn cc pc (.lcmp) 1 nx) 
    (kk : VV G x n1 n2 h nx lv (.int (lg_cmp a b) :: st)) : VV G x n1 n2 h pc lv (.long b :: .long a :: st) := by
  obtain ⟨p, l, e, R, s, m, args, below, meth, c, Q, n⟩ := x
  obtain ⟨d, rfl⟩ := d
  intro H locs ls hh hS hl
  exact W.lcmp C.1 C.2.1 d (kk H locs ls hh hS hl)
theorem r_i2l (C : cxOk G own cc rm nL x) {a : Int32} (d : dn cc pc (.i2l) 1 nx) 
    (kk : VV G x n1 n2 h nx lv (.long a.toInt64 :: st)) : VV G x n1 n2 h pc lv (.int a :: st) := by
  obtain ⟨p, l, e, R, s, m, args, below, meth, c, Q, n⟩ := x
  obtain ⟨d, rfl⟩ := d
  intro H locs ls hh hS hl
  exact lv_i2l C.1 C.2.1 d rfl (kk H locs ls hh hS hl)
theorem r_l2i (C : cxOk G own cc rm nL x) {a : Int64} (d : dn cc pc (.l2i) 1 nx) 
    (kk : VV G x n1 n2 h nx lv (.int a.toInt32 :: st)) : VV G x n1 n2 h pc lv (.long a :: st) := by
  obtain ⟨p, l, e, R, s, m, args, below, meth, c, Q, n⟩ := x
  obtain ⟨d, rfl⟩ := d
  intro H locs ls hh hS hl
  exact lv_l2i C.1 C.2.1 d rfl (kk H locs ls hh hS hl)
theorem r_dup (C : cxOk G own cc rm nL x) {v : Value} (d : dn cc pc (.dup) 1 nx) (hv : v.category = 1)
    (kk : VV G x n1 n2 h nx lv (v :: v :: st)) : VV G x n1 n2 h pc lv (v :: st) := by
  obtain ⟨p, l, e, R, s, m, args, below, meth, c, Q, n⟩ := x
  obtain ⟨d, rfl⟩ := d
  intro H locs ls hh hS hl
  exact lv_dup C.1 C.2.1 d hv (kk H locs ls hh hS hl)
theorem r_pop (C : cxOk G own cc rm nL x) {v : Value} (d : dn cc pc (.pop) 1 nx) (hv : v.category = 1)
    (kk : VV G x n1 n2 h nx lv (st)) : VV G x n1 n2 h pc lv (v :: st) := by
  obtain ⟨p, l, e, R, s, m, args, below, meth, c, Q, n⟩ := x
  obtain ⟨d, rfl⟩ := d
  intro H locs ls hh hS hl
  exact lv_pop C.1 C.2.1 d hv (kk H locs ls hh hS hl)
theorem r_dup2 (C : cxOk G own cc rm nL x) {v w : Value} (d : dn cc pc (.dup2) 1 nx) (hv : v.category = 1) (hw : w.category = 1)
    (kk : VV G x n1 n2 h nx lv (v :: w :: v :: w :: st)) : VV G x n1 n2 h pc lv (v :: w :: st) := by
  obtain ⟨p, l, e, R, s, m, args, below, meth, c, Q, n⟩ := x
  obtain ⟨d, rfl⟩ := d
  intro H locs ls hh hS hl
  exact lv_dup2_11 C.1 C.2.1 d hv hw (kk H locs ls hh hS hl)
theorem r_if_eq (C : cxOk G own cc rm nL x) {off : Int} {tgt : Nat} {a : Int32} (d : dn cc pc (.ifCond .eq off) 3 nx) (ht : (pc : Int) + off = (tgt : Int))
    (kt : a = 0 → VV G x n1 n2 h tgt lv st) (kf : ¬ (a = 0) → VV G x n1 n2 h nx lv st) : VV G x n1 n2 h pc lv (.int a :: st) := by
  obtain ⟨p, l, e, R, s, m, args, below, meth, c, Q, n⟩ := x
  obtain ⟨d, rfl⟩ := d
  intro H locs ls hh hS hl
  exact lv_if_eq C.1 C.2.1 d ht (fun q => kt (by first | exact q | simpa using q) H locs ls hh hS hl) (fun q => kf (by first | exact q | simpa using q) H locs ls hh hS hl)
theorem r_if_ne (C : cxOk G own cc rm nL x) {off : Int} {tgt : Nat} {a : Int32} (d : dn cc pc (.ifCond .ne off) 3 nx) (ht : (pc : Int) + off = (tgt : Int))
    (kt : ¬ a = 0 → VV G x n1 n2 h tgt lv st) (kf : ¬ (¬ a = 0) → VV G x n1 n2 h nx lv st) : VV G x n1 n2 h pc lv (.int a :: st) := by
  obtain ⟨p, l, e, R, s, m, args, below, meth, c, Q, n⟩ := x
  obtain ⟨d, rfl⟩ := d
  intro H locs ls hh hS hl
  exact lv_if_ne C.1 C.2.1 d ht (fun q => kt (by first | exact q | simpa using q) H locs ls hh hS hl) (fun q => kf (by first | exact q | simpa using q) H locs ls hh hS hl)
theorem r_if_lt (C : cxOk G own cc rm nL x) {off : Int} {tgt : Nat} {a : Int32} (d : dn cc pc (.ifCond .lt off) 3 nx) (ht : (pc : Int) + off = (tgt : Int))
    (kt : a < 0 → VV G x n1 n2 h tgt lv st) (kf : ¬ (a < 0) → VV G x n1 n2 h nx lv st) : VV G x n1 n2 h pc lv (.int a :: st) := by
  obtain ⟨p, l, e, R, s, m, args, below, meth, c, Q, n⟩ := x
  obtain ⟨d, rfl⟩ := d
  intro H locs ls hh hS hl
  exact lv_if_lt C.1 C.2.1 d ht (fun q => kt (by first | exact q | simpa using q) H locs ls hh hS hl) (fun q => kf (by first | exact q | simpa using q) H locs ls hh hS hl)
theorem r_if_ge (C : cxOk G own cc rm nL x) {off : Int} {tgt : Nat} {a : Int32} (d : dn cc pc (.ifCond .ge off) 3 nx) (ht : (pc : Int) + off = (tgt : Int))
    (kt : 0 ≤ a → VV G x n1 n2 h tgt lv st) (kf : ¬ (0 ≤ a) → VV G x n1 n2 h nx lv st) : VV G x n1 n2 h pc lv (.int a :: st) := by
  obtain ⟨p, l, e, R, s, m, args, below, meth, c, Q, n⟩ := x
  obtain ⟨d, rfl⟩ := d
  intro H locs ls hh hS hl
  exact lv_if_ge C.1 C.2.1 d ht (fun q => kt (by first | exact q | simpa using q) H locs ls hh hS hl) (fun q => kf (by first | exact q | simpa using q) H locs ls hh hS hl)
theorem r_if_gt (C : cxOk G own cc rm nL x) {off : Int} {tgt : Nat} {a : Int32} (d : dn cc pc (.ifCond .gt off) 3 nx) (ht : (pc : Int) + off = (tgt : Int))
    (kt : 0 < a → VV G x n1 n2 h tgt lv st) (kf : ¬ (0 < a) → VV G x n1 n2 h nx lv st) : VV G x n1 n2 h pc lv (.int a :: st) := by
  obtain ⟨p, l, e, R, s, m, args, below, meth, c, Q, n⟩ := x
  obtain ⟨d, rfl⟩ := d
  intro H locs ls hh hS hl
  exact lv_if_gt C.1 C.2.1 d ht (fun q => kt (by first | exact q | simpa using q) H locs ls hh hS hl) (fun q => kf (by first | exact q | simpa using q) H locs ls hh hS hl)
theorem r_if_le (C : cxOk G own cc rm nL x) {off : Int} {tgt : Nat} {a : Int32} (d : dn cc pc (.ifCond .le off) 3 nx) (ht : (pc : Int) + off = (tgt : Int))
    (kt : a ≤ 0 → VV G x n1 n2 h tgt lv st) (kf : ¬ (a ≤ 0) → VV G x n1 n2 h nx lv st) : VV G x n1 n2 h pc lv (.int a :: st) := by
  obtain ⟨p, l, e, R, s, m, args, below, meth, c, Q, n⟩ := x
  obtain ⟨d, rfl⟩ := d
  intro H locs ls hh hS hl
  exact lv_if_le C.1 C.2.1 d ht (fun q => kt (by first | exact q | simpa using q) H locs ls hh hS hl) (fun q => kf (by first | exact q | simpa using q) H locs ls hh hS hl)
theorem r_icmp_eq (C : cxOk G own cc rm nL x) {off : Int} {tgt : Nat} {a b : Int32} (d : dn cc pc (.if_icmp .eq off) 3 nx) (ht : (pc : Int) + off = (tgt : Int))
    (kt : a = b → VV G x n1 n2 h tgt lv st) (kf : ¬ (a = b) → VV G x n1 n2 h nx lv st) : VV G x n1 n2 h pc lv (.int b :: .int a :: st) := by
  obtain ⟨p, l, e, R, s, m, args, below, meth, c, Q, n⟩ := x
  obtain ⟨d, rfl⟩ := d
  intro H locs ls hh hS hl
  exact lv_icmp_eq C.1 C.2.1 d ht (fun q => kt (by first | exact q | simpa using q) H locs ls hh hS hl) (fun q => kf (by first | exact q | simpa using q) H locs ls hh hS hl)
theorem r_icmp_ne (C : cxOk G own cc rm nL x) {off : Int} {tgt : Nat} {a b : Int32} (d : dn cc pc (.if_icmp .ne off) 3 nx) (ht : (pc : Int) + off = (tgt : Int))
    (kt : ¬ a = b → VV G x n1 n2 h tgt lv st) (kf : ¬ (¬ a = b) → VV G x n1 n2 h nx lv st) : VV G x n1 n2 h pc lv (.int b :: .int a :: st) := by
  obtain ⟨p, l, e, R, s, m, args, below, meth, c, Q, n⟩ := x
  obtain ⟨d, rfl⟩ := d
  intro H locs ls hh hS hl
  exact lv_icmp_ne C.1 C.2.1 d ht (fun q => kt (by first | exact q | simpa using q) H locs ls hh hS hl) (fun q => kf (by first | exact q | simpa using q) H locs ls hh hS hl)
theorem r_icmp_lt (C : cxOk G own cc rm nL x) {off : Int} {tgt : Nat} {a b : Int32} (d : dn cc pc (.if_icmp .lt off) 3 nx) (ht : (pc : Int) + off = (tgt : Int))
    (kt : a < b → VV G x n1 n2 h tgt lv st) (kf : ¬ (a < b) → VV G x n1 n2 h nx lv st) : VV G x n1 n2 h pc lv (.int b :: .int a :: st) := by
  obtain ⟨p, l, e, R, s, m, args, below, meth, c, Q, n⟩ := x
  obtain ⟨d, rfl⟩ := d
  intro H locs ls hh hS hl
  exact lv_icmp_lt C.1 C.2.1 d ht (fun q => kt (by first | exact q | simpa using q) H locs ls hh hS hl) (fun q => kf (by first | exact q | simpa using q) H locs ls hh hS hl)
theorem r_icmp_ge (C : cxOk G own cc rm nL x) {off : Int} {tgt : Nat} {a b : Int32} (d : dn cc pc (.if_icmp .ge off) 3 nx) (ht : (pc : Int) + off = (tgt : Int))
    (kt : b ≤ a → VV G x n1 n2 h tgt lv st) (kf : ¬ (b ≤ a) → VV G x n1 n2 h nx lv st) : VV G x n1 n2 h pc lv (.int b :: .int a :: st) := by
  obtain ⟨p, l, e, R, s, m, args, below, meth, c, Q, n⟩ := x
  obtain ⟨d, rfl⟩ := d
  intro H locs ls hh hS hl
  exact lv_icmp_ge C.1 C.2.1 d ht (fun q => kt (by first | exact q | simpa using q) H locs ls hh hS hl) (fun q => kf (by first | exact q | simpa using q) H locs ls hh hS hl)
theorem r_icmp_gt (C : cxOk G own cc rm nL x) {off : Int} {tgt : Nat} {a b : Int32} (d : dn cc pc (.if_icmp .gt off) 3 nx) (ht : (pc : Int) + off = (tgt : Int))
    (kt : b < a → VV G x n1 n2 h tgt lv st) (kf : ¬ (b < a) → VV G x n1 n2 h nx lv st) : VV G x n1 n2 h pc lv (.int b :: .int a :: st) := by
  obtain ⟨p, l, e, R, s, m, args, below, meth, c, Q, n⟩ := x
  obtain ⟨d, rfl⟩ := d
  intro H locs ls hh hS hl
  exact lv_icmp_gt C.1 C.2.1 d ht (fun q => kt (by first | exact q | simpa using q) H locs ls hh hS hl) (fun q => kf (by first | exact q | simpa using q) H locs ls hh hS hl)
theorem r_icmp_le (C : cxOk G own cc rm nL x) {off : Int} {tgt : Nat} {a b : Int32} (d : dn cc pc (.if_icmp .le off) 3 nx) (ht : (pc : Int) + off = (tgt : Int))
    (kt : a ≤ b → VV G x n1 n2 h tgt lv st) (kf : ¬ (a ≤ b) → VV G x n1 n2 h nx lv st) : VV G x n1 n2 h pc lv (.int b :: .int a :: st) := by
  obtain ⟨p, l, e, R, s, m, args, below, meth, c, Q, n⟩ := x
  obtain ⟨d, rfl⟩ := d
  intro H locs ls hh hS hl
  exact lv_icmp_le C.1 C.2.1 d ht (fun q => kt (by first | exact q | simpa using q) H locs ls hh hS hl) (fun q => kf (by first | exact q | simpa using q) H locs ls hh hS hl)
theorem r_goto (C : cxOk G own cc rm nL x) {off : Int} {tgt : Nat} (d : dn cc pc (.goto off) 3 nx) (ht : (pc : Int) + off = (tgt : Int))
    (kk : VV G x n1 n2 h tgt lv st) : VV G x n1 n2 h pc lv st := by
  obtain ⟨p, l, e, R, s, m, args, below, meth, c, Q, n⟩ := x
  obtain ⟨d, rfl⟩ := d
  intro H locs ls hh hS hl
  exact lv_goto C.1 C.2.1 d ht (kk H locs ls hh hS hl)
theorem r_widen {k1 k2 : Nat} (a1 : n1 ≤ k1) (a2 : n2 ≤ k2) (kk : VV G x k1 k2 h pc lv st) : VV G x n1 n2 h pc lv st := by
  obtain ⟨p, l, e, R, s, m, args, below, meth, c, Q, n⟩ := x
  intro H locs ls hh hS hl
  exact W.widen a1 a2 (kk H locs ls hh hS hl)
theorem r_sub {h' : hp} (hs : ∀ a e, h' a = some e → h a = some e) (kk : VV G x n1 n2 h' pc lv st) : VV G x n1 n2 h pc lv st := by
  obtain ⟨p, l, e, R, s, m, args, below, meth, c, Q, n⟩ := x
  intro H locs ls hh hS hl
  exact kk H locs ls (hh.sub hs) hS hl
/-- fewer locals, by their places -/
theorem r_lv {lv' : List (Nat × Value)} (ks : List Nat) (hl2 : lv_pick lv ks = lv') (kk : VV G x n1 n2 h pc lv' st) : VV G x n1 n2 h pc lv st := by
  obtain ⟨p, l, e, R, s, m, args, below, meth, c, Q, n⟩ := x
  intro H locs ls hh hS hl
  exact kk H locs ls hh hS (lv_sub hl ks hl2)
theorem r_tsIn (C : cxOk G own cc rm nL x) {dflt lo hi : Int} {offs : Array Int} {k tgt : Nat} {off : Int} {a : Int32} (d : dn cc pc (.tableswitch dflt lo hi offs) k nx) (h1 : ¬ a.toInt < lo) (h2 : ¬ hi < a.toInt) (ho : offs[(a.toInt - lo).toNat]? = some off) (ht : (pc : Int) + off = (tgt : Int))
    (kk : VV G x n1 n2 h tgt lv st) : VV G x n1 n2 h pc lv (.int a :: st) := by
  obtain ⟨p, l, e, R, s, m, args, below, meth, c, Q, n⟩ := x
  obtain ⟨d, rfl⟩ := d
  intro H locs ls hh hS hl
  exact lv_tableIn C.1 C.2.1 d h1 h2 ho ht (kk H locs ls hh hS hl)
theorem r_tsOut (C : cxOk G own cc rm nL x) {dflt lo hi : Int} {offs : Array Int} {k tgt : Nat} {a : Int32} (d : dn cc pc (.tableswitch dflt lo hi offs) k nx) (h1 : a.toInt < lo ∨ hi < a.toInt) (ht : (pc : Int) + dflt = (tgt : Int))
    (kk : VV G x n1 n2 h tgt lv st) : VV G x n1 n2 h pc lv (.int a :: st) := by
  obtain ⟨p, l, e, R, s, m, args, below, meth, c, Q, n⟩ := x
  obtain ⟨d, rfl⟩ := d
  intro H locs ls hh hS hl
  exact lv_tableOut C.1 C.2.1 d h1 ht (kk H locs ls hh hS hl)
/-! heap rows -/
theorem one_P {G : eG} {H : Heap} {q : Nat × va_E} (h : va_at G.1 vwCl q H) : va_P G.1 vwCl [q] H := by
  intro k q' hk
  have hz : k < 1 := (List.getElem?_eq_some_iff.mp hk).1
  rw [show k = 0 by omega] at hk
  cases hk
  exact h
def fdOk (own : String) (i ci k : Nat) : Prop := ∃ (C : String) (T : u_T) (N : Nat), vwCl[ci]? = some (C, T, N) ∧ k < N ∧ (∀ w ∈ u_ws C T N, w ∈ TB) ∧ Cond.fieldLink own i C (T k).2.1 (T k).2.2.1 ∈ TB ∧ (T k).1 = C
def pfOk (own : String) (i ci k : Nat) (ty : FieldType) (fin : Bool) : Prop := ∃ (C : String) (T : u_T) (N : Nat) (ty0 : Nat → FieldType), vwCl[ci]? = some (C, T, N) ∧ k < N ∧ (∀ w ∈ u_ws C T N, w ∈ TB) ∧ Cond.fieldLink own i C (T k).2.1 (T k).2.2.1 ∈ TB ∧ (T k).1 = C ∧ (∀ k, k < N → parseFieldDescriptor (T k).2.2.1 = some (ty0 k)) ∧ (∀ a, a < N → ∀ b, b < N → a ≠ b → (T a).2.1 ≠ (T b).2.1) ∧ (T k).2.2.2 = fin ∧ parseFieldDescriptor (T k).2.2.1 = some ty
theorem r_get (C : cxOk G own cc rm nL x) {i ci k a : Nat} {fs : List Value} {v : Value} (d : dn cc pc (.getfield i) 3 nx) (F : fdOk own i ci k) (he : h a = some (.inr (ci, fs))) (hv : fs[k]? = some v)
    (kk : VV G x n1 n2 h nx lv (v :: st)) : VV G x n1 n2 h pc lv (.ref a :: st) := by
  obtain ⟨p, l, e, R, s, m, args, below, meth, c, Q, n⟩ := x
  obtain ⟨d, rfl⟩ := d
  obtain ⟨C9, T, N, f1, f2, f3, f4, f5⟩ := F
  intro H locs ls hh hS hl
  exact va_get C.1 C.2.1 C.2.2.2.2.1 f3 C.2.2.2.1 C.2.2.2.2.2.1.1 (one_P (hh.2 _ _ he).2) 0 rfl f1 k f2 (C.2.2.2.2.1 _ f4) (fun y hy => by rw [f5] at hy; exact hy) hv d (kk H locs ls hh hS hl)
theorem r_put (C : cxOk G own cc rm nL x) {i ci k a : Nat} {fs fs' : List Value} {v : Value} {ty : FieldType} (d : dn cc pc (.putfield i) 3 nx) (F : pfOk own i ci k ty false) (he : h a = some (.inr (ci, fs))) (hn : narrow ty v = v) (hfit : fits ty v = true) (hlen : k < fs.length) (hfs : fs.set k v = fs')
    (kk : VV G x n1 n2 (hup h a (.inr (ci, fs'))) nx lv st) : VV G x n1 n2 h pc lv (v :: .ref a :: st) := by
  obtain ⟨p, l, e, R, s, m, args, below, meth, c, Q, n⟩ := x
  obtain ⟨d, rfl⟩ := d
  obtain ⟨C9, T, N, ty0, f1, f2, f3, f4, f5, f6, f7, f8, f9⟩ := F
  subst hfs
  intro H locs ls hh hS hl
  have hK := C.2.2.2.2.2.1.1
  have hap := va_apart (own := own) C.2.2.2.2.1 f3 ty0 f6 f7 hK f1
  obtain ⟨r, h1, cell, q1, q2, q3, q4⟩ := (hh.2 _ _ he).2
  have hr : r = (C9, T, N) := Option.some.inj (h1.symm.trans f1)
  subst hr
  obtain ⟨hSl, hfc, kC, hkC, hkind⟩ := hK.1 ci _ f1
  obtain ⟨cf, kf, fi, f, hi, hsl⟩ := hSl k f2
  have hlay := C.2.2.2.2.1 _ (f3 _ (u_in_lay f2))
  unfold u_lay at hlay
  rw [if_neg (by rw [f8]; decide)] at hlay
  have hst := (u_facts hfc hkC (u_lays C.2.2.2.2.1 f3 f2) hi).1
  have h6 := u_store hfc hkC hkind hlay hi f9 hn hfit
  have hi2 : s.fieldFound? C9 (T k).2.1 (T k).2.2.1 = some (cf, kf, fi, f) := by
    have hi3 := hi
    rw [show (T k).1 = C9 from f5] at hi3
    exact hi3
  refine W.putK C.1 C.2.1 (f := f) ⟨C.2.2.2.1, C.2.2.2.2.1 _ f4, ⟨_, _, _, hi2⟩, hst⟩ (by rw [q2]; exact h6) q1 q3 (by rw [hsl]; exact k2_hasslot (q4 k f2)) rfl rfl d fun H' e1 e2 e3 => ?_
  rw [hsl] at e1 ⊢
  exact kk H' _ ls (hh.put he e2 e3 ⟨_, f1, t_OB.to (V := updV (vp_V fs) k v) ⟨_, e1, q2, q3, t_set q4 hap f2 v⟩ (fun j _ => vp_updV_set hlen v j)⟩) (hS.put e2 e3 (hh.2 _ _ he).1) hl
def cxI : CX → Prop
  | (p, l, e, R, s, m, args, below, meth, c, Q, n) => meth.name = "<init>"
theorem r_putF (C : cxOk G own cc rm nL x) (CI : cxI x) {i ci k a : Nat} {fs fs' : List Value} {v : Value} {ty : FieldType} (d : dn cc pc (.putfield i) 3 nx) (F : pfOk own i ci k ty true) (hdecl : ∀ q, vwCl[ci]? = some q → q.1 = own) (he : h a = some (.inr (ci, fs))) (hn : narrow ty v = v) (hfit : fits ty v = true) (hlen : k < fs.length) (hfs : fs.set k v = fs')
    (kk : VV G x n1 n2 (hup h a (.inr (ci, fs'))) nx lv st) : VV G x n1 n2 h pc lv (v :: .ref a :: st) := by
  obtain ⟨p, l, e, R, s, m, args, below, meth, c, Q, n⟩ := x
  obtain ⟨d, rfl⟩ := d
  obtain ⟨C9, T, N, ty0, f1, f2, f3, f4, f5, f6, f7, f8, f9⟩ := F
  subst hfs
  intro H locs ls hh hS hl
  have hK := C.2.2.2.2.2.1.1
  have hap := va_apart (own := own) C.2.2.2.2.1 f3 ty0 f6 f7 hK f1
  obtain ⟨r, h1, cell, q1, q2, q3, q4⟩ := (hh.2 _ _ he).2
  have hr : r = (C9, T, N) := Option.some.inj (h1.symm.trans f1)
  subst hr
  obtain ⟨hSl, hfc, kC, hkC, hkind⟩ := hK.1 ci _ f1
  obtain ⟨cf, kf, fi, f, hi, hsl⟩ := hSl k f2
  have hlay := C.2.2.2.2.1 _ (f3 _ (u_in_lay f2))
  unfold u_lay at hlay
  rw [if_pos f8] at hlay
  have hst := (u_facts hfc hkC (u_lays C.2.2.2.2.1 f3 f2) hi).1
  have hown2 : C9 = own := hdecl _ f1
  have hcf : m.cls = cf := by
    obtain ⟨_, _, c', _, _, _, -, -, hf', -, -, -, hown3, -⟩ := Cond.laysFinal_spec hlay
    have e1 : c' = cf := by have := hi.symm.trans hf'; simp at this; exact this.1.symm
    rw [show (T k).1 = own from f5.trans hown2] at hown3
    rw [← e1]; exact Option.some.inj (C.2.2.2.1.symm.trans hown3)
  have h6 := u_fits hfc hkC hkind (Or.inr hlay) hi f9 hn hfit
  have hi2 : s.fieldFound? C9 (T k).2.1 (T k).2.2.1 = some (cf, kf, fi, f) := by
    have hi3 := hi
    rw [show (T k).1 = C9 from f5] at hi3
    exact hi3
  refine W.putFinK C.1 C.2.1 C.2.2.2.1 (C.2.2.2.2.1 _ f4) hi2 hst hcf CI (by rw [q2]; exact h6) q1 q3 (by rw [hsl]; exact k2_hasslot (q4 k f2)) rfl rfl d fun H' e1 e2 e3 => ?_
  rw [hsl] at e1 ⊢
  exact kk H' _ ls (hh.put he e2 e3 ⟨_, f1, t_OB.to (V := updV (vp_V fs) k v) ⟨_, e1, q2, q3, t_set q4 hap f2 v⟩ (fun j _ => vp_updV_set hlen v j)⟩) (hS.put e2 e3 (hh.2 _ _ he).1) hl
theorem r_alen (C : cxOk G own cc rm nL x) {a n t : Nat} {y : vp_A} {cA : ClassId} {ty : FieldType} (d : dn cc pc .arraylength 1 nx) (he : h a = some (.inl (cA, y))) (ht : (tyL G)[t]? = some (cA, ty)) (hn : y.1 = n)
    (kk : VV G x n1 n2 h nx lv (.int (nI n) :: st)) : VV G x n1 n2 h pc lv (.ref a :: st) := by
  obtain ⟨p, l, e, R, s, m, args, below, meth, c, Q, n'⟩ := x
  obtain ⟨d, rfl⟩ := d
  intro H locs ls hh hS hl
  exact va_alen C.1 C.2.1 C.2.2.2.2.2.1.1 (one_P (hh.2 _ _ he).2) 0 t rfl ht (by rw [hn]; rfl) d (kk H locs ls hh hS hl)
theorem ix_in {i n : Nat} (hi : i < n) (hn : n < 2147483648) : vp_in (nI i) n := vp_in_nI hi hn
theorem ix_cl {i n : Nat} (hi : i < n) (hn : n < 2147483648) : (nI i).toNatClampNeg = i := nI_clamp (Nat.lt_trans hi hn)
theorem r_iald (C : cxOk G own cc rm nL x) {a i n : Nat} {f : Nat → Int32} (d : dn cc pc .iaload 1 nx) (he : h a = some (aI G n f)) (hi : i < n) (hn : n < 2147483648)
    (kk : VV G x n1 n2 h nx lv (.int (f i) :: st)) : VV G x n1 n2 h pc lv (.int (nI i) :: .ref a :: st) := by
  obtain ⟨p, l, e, R, s, m, args, below, meth, c, Q, n'⟩ := x
  obtain ⟨d, rfl⟩ := d
  intro H locs ls hh hS hl
  refine va_iald C.1 C.2.1 C.2.2.2.2.2.1.1 (one_P (hh.2 _ _ he).2) 0 0 rfl rfl (ix_in hi hn) d ?_
  rw [ix_cl hi hn]
  exact kk H locs ls hh hS hl
theorem r_lald (C : cxOk G own cc rm nL x) {a i n : Nat} {f : Nat → Int64} (d : dn cc pc .laload 1 nx) (he : h a = some (aJ G n f)) (hi : i < n) (hn : n < 2147483648)
    (kk : VV G x n1 n2 h nx lv (.long (f i) :: st)) : VV G x n1 n2 h pc lv (.int (nI i) :: .ref a :: st) := by
  obtain ⟨p, l, e, R, s, m, args, below, meth, c, Q, n'⟩ := x
  obtain ⟨d, rfl⟩ := d
  intro H locs ls hh hS hl
  refine va_lald C.1 C.2.1 C.2.2.2.2.2.1.1 (one_P (hh.2 _ _ he).2) 0 1 rfl rfl (ix_in hi hn) d ?_
  rw [ix_cl hi hn]
  exact kk H locs ls hh hS hl
theorem r_aald (C : cxOk G own cc rm nL x) {a i n t b : Nat} {cA : ClassId} {CN : String} {f : Nat → Option Nat} (d : dn cc pc .aaload 1 nx) (he : h a = some (.inl (cA, n, .inr (.inr (.inr (.inr f)))))) (ht : (tyL G)[t]? = some (cA, .object CN)) (hi : i < n) (hn : n < 2147483648) (hf : f i = some b)
    (kk : VV G x n1 n2 h nx lv (.ref b :: st)) : VV G x n1 n2 h pc lv (.int (nI i) :: .ref a :: st) := by
  obtain ⟨p, l, e, R, s, m, args, below, meth, c, Q, n'⟩ := x
  obtain ⟨d, rfl⟩ := d
  intro H locs ls hh hS hl
  refine va_aldq C.1 C.2.1 C.2.2.2.2.2.1.1 (one_P (hh.2 _ _ he).2) 0 t rfl ht (ix_in hi hn) d ?_
  rw [ix_cl hi hn, hf]
  exact kk H locs ls hh hS hl
theorem r_iast (C : cxOk G own cc rm nL x) {a i n : Nat} {v : Int32} {f : Nat → Int32} (d : dn cc pc .iastore 1 nx) (he : h a = some (aI G n f)) (hi : i < n) (hn : n < 2147483648)
    (kk : VV G x n1 n2 (hup h a (aI G n (upd f i v))) nx lv st) : VV G x n1 n2 h pc lv (.int v :: .int (nI i) :: .ref a :: st) := by
  obtain ⟨p, l, e, R, s, m, args, below, meth, c, Q, n'⟩ := x
  obtain ⟨d, rfl⟩ := d
  intro H locs ls hh hS hl
  have ht : (tyL G)[0]? = some (G.2.1 0, .int) := rfl
  refine W.iast C.1 C.2.1 (hh.2 _ _ he).2 ((C.2.2.2.2.2.1.1.2 0 _ ht).1 n (fun j => .int (f j))) (fun q => by cases q) (by show ¬ (nI i < 0 ∨ (arrV _ _ _).slots.size ≤ _); rw [arrV_size]; exact ix_in hi hn) rfl rfl d fun H1 e1 z oq => ?_
  refine kk H1 _ ls (hh.put he z oq ?_) (hS.put z oq (hh.2 _ _ he).1) hl
  show H1[a]? = some (vp_cell _ _)
  rw [e1, vp_cell_i, vp_cell_i, arrV_store, ix_cl hi hn]
  congr 2
  funext q
  by_cases hq : q = i
  · subst hq
    simp [updV, upd]
  · simp [updV, upd, hq]
theorem r_last (C : cxOk G own cc rm nL x) {a i n : Nat} {v : Int64} {f : Nat → Int64} (d : dn cc pc .lastore 1 nx) (he : h a = some (aJ G n f)) (hi : i < n) (hn : n < 2147483648)
    (kk : VV G x n1 n2 (hup h a (aJ G n (vp_updL f i v))) nx lv st) : VV G x n1 n2 h pc lv (.long v :: .int (nI i) :: .ref a :: st) := by
  obtain ⟨p, l, e, R, s, m, args, below, meth, c, Q, n'⟩ := x
  obtain ⟨d, rfl⟩ := d
  intro H locs ls hh hS hl
  have ht : (tyL G)[1]? = some (G.2.1 1, .long) := rfl
  refine W.last C.1 C.2.1 (hh.2 _ _ he).2 ((C.2.2.2.2.2.1.1.2 1 _ ht).1 n (fun j => .long (f j))) (fun q => by cases q) (by show ¬ (nI i < 0 ∨ (arrV _ _ _).slots.size ≤ _); rw [arrV_size]; exact ix_in hi hn) rfl rfl d fun H1 e1 z oq => ?_
  refine kk H1 _ ls (hh.put he z oq ?_) (hS.put z oq (hh.2 _ _ he).1) hl
  show H1[a]? = some (vp_cell _ _)
  rw [e1, vp_cell_l, vp_cell_l, arrV_store, ix_cl hi hn]
  congr 2
  funext q
  by_cases hq : q = i
  · subst hq
    simp [updV, vp_updL]
  · simp [updV, vp_updL, hq]
theorem r_aast (C : cxOk G own cc rm nL x) {a i n t b ci : Nat} {vs : List Value} {r : vw_C} {cA : ClassId} {f : Nat → Option Nat} (d : dn cc pc .aastore 1 nx) (he : h a = some (.inl (cA, n, .inr (.inr (.inr (.inr f)))))) (ht : (tyL G)[t]? = some (cA, .object r.1)) (hb : h b = some (.inr (ci, vs))) (hc : vwCl[ci]? = some r) (hi : i < n) (hn : n < 2147483648)
    (kk : VV G x n1 n2 (hup h a (.inl (cA, n, .inr (.inr (.inr (.inr (va_up f i (some b)))))))) nx lv st) : VV G x n1 n2 h pc lv (.ref b :: .int (nI i) :: .ref a :: st) := by
  obtain ⟨p, l, e, R, s, m, args, below, meth, c, Q, n'⟩ := x
  obtain ⟨d, rfl⟩ := d
  intro H locs ls hh hS hl
  have hK := C.2.2.2.2.2.1.1
  obtain ⟨r', hr', cellV, g1, g2, g3, -⟩ := (hh.2 _ _ hb).2
  have hcls := (hK.1 ci r hc).2
  obtain ⟨kA, comp, k1, k2, k3, -⟩ := (hK.2 t _ ht).2
  have hcomp : comp = G.1.1 ci := Option.some.inj (k3.symm.trans hcls.1)
  subst hcomp
  obtain ⟨kC, hkC, -⟩ := hcls.2
  have hin := ix_in hi hn
  refine W.aast C.1 C.2.1 (hh.2 _ _ he).2 (fun q h => by cases h) (fun h => by cases h) k1 k2 rfl hkC ⟨fun q => hin (Or.inl q), by show _ < (arrV _ _ _).slots.size; rw [arrV_size, ix_cl hi hn]; exact hi⟩ g1 (fun q h => by rw [g3] at h; cases h) (by rw [g2]; exact hkC) (by rw [g2]; exact va_assign hcls) rfl rfl d fun H1 e1 z oq => ?_
  refine kk H1 _ ls (hh.put he z oq ?_) (hS.put z oq (hh.2 _ _ he).1) hl
  show H1[a]? = some (vp_cell _ _)
  rw [e1, vp_cell_q, vp_cell_q, arrV_store, ix_cl hi hn]
  congr 2
  funext q
  by_cases hq : q = i
  · subst hq
    simp [updV, va_up, va_rf]
  · simp [updV, va_up, hq]
theorem r_aastN (C : cxOk G own cc rm nL x) {a i n t : Nat} {CN : String} {cA : ClassId} {f : Nat → Option Nat} (d : dn cc pc .aastore 1 nx) (he : h a = some (.inl (cA, n, .inr (.inr (.inr (.inr f)))))) (ht : (tyL G)[t]? = some (cA, .object CN)) (hi : i < n) (hn : n < 2147483648)
    (kk : VV G x n1 n2 (hup h a (.inl (cA, n, .inr (.inr (.inr (.inr (va_up f i none))))))) nx lv st) : VV G x n1 n2 h pc lv (.null :: .int (nI i) :: .ref a :: st) := by
  obtain ⟨p, l, e, R, s, m, args, below, meth, c, Q, n'⟩ := x
  obtain ⟨d, rfl⟩ := d
  intro H locs ls hh hS hl
  have hK := C.2.2.2.2.2.1.1
  refine va_WaastN (C := CN) C.1 C.2.1 (hh.2 _ _ he).2 ((hK.2 t _ ht).1 n (fun j => va_rf (f j))) (fun h => by cases h) (by show ¬ (nI i < 0 ∨ (arrV _ _ _).slots.size ≤ _); rw [arrV_size]; exact ix_in hi hn) rfl rfl d fun H1 e1 z oq => ?_
  refine kk H1 _ ls (hh.put he z oq ?_) (hS.put z oq (hh.2 _ _ he).1) hl
  show H1[a]? = some (vp_cell _ _)
  rw [e1, vp_cell_q, vp_cell_q, arrV_store, ix_cl hi hn]
  congr 2
  funext q
  by_cases hq : q = i
  · subst hq
    simp [updV, va_up, va_rf]
  · simp [updV, va_up, hq]
theorem r_newA (C : cxOk G own cc rm nL x) {atype : ArrayType} {n t : Nat} {a0 : Nat → va_E} {ty : FieldType} (d : dn cc pc (.newarray atype) 2 nx) (hw : Cond.arrayClass (newarray.typeOf atype) ∈ TB) (hty : newarray.typeOf atype = ty) (hob : ty ≠ .object "") (ht : (tyL G)[t]? = some (G.2.1 t, ty)) (hra : ∀ U cA, va_RA U cA ty → U.vm.findClass ("[" ++ ty.toString) = some cA)
    (ha : ∀ q H1, H1[q]? = some (arrV (G.2.1 t) n (fun _ => defaultValue ty)) → va_at G.1 vwCl (q, a0 q) H1) (hn : n < 2147483648) (hby : n * componentBytes ty ≤ 536870912) (hc1 : n1 + 1 ≤ rm.cells) (hc2 : n2 + n ≤ rm.slots)
    (kk : ∀ q, h q = none → eB G ≤ q → VV G x (n1 + 1) (n2 + n) (hup h q (a0 q)) nx lv (.ref q :: st)) : VV G x n1 n2 h pc lv (.int (nI n) :: st) := by
  obtain ⟨p, l, e, R, s, m, args, below, meth, c, Q, n'⟩ := x
  obtain ⟨d, rfl⟩ := d
  subst hty
  intro H locs ls hh hS hl
  obtain ⟨c1, c2, c3, c4, c5, c6, c7, c8, rfl, c10, c11⟩ := C
  have hpos : ¬ nI n < 0 := nI_pos hn
  refine va_newaK c1 c2 (c5 _ hw) rfl d rfl hpos (nI_clamp hn) hby hc1 hc2 rfl fun H1 cA e1 z1 o1 hAr hNm => ?_
  have hcA : cA = G.2.1 t := Option.some.inj (hNm.symm.trans (hra _ _ (c6.1.2 t _ ht).2))
  subst hcA
  refine kk H.size hh.fresh hh.1 H1 locs ls (hh.new z1 o1 (ha _ _ e1)) ⟨Nat.le_trans hS.1 (by omega), fun y y1 y2 => (o1 y (Nat.lt_of_lt_of_le y1 hS.1)).trans (hS.2.1 y y1 y2), hS.2.2⟩ hl
theorem r_newI (C : cxOk G own cc rm nL x) {n : Nat} (d : dn cc pc (.newarray .int) 2 nx) (hw : Cond.arrayClass .int ∈ TB) (hn : n < 134217728) (hc1 : n1 + 1 ≤ rm.cells) (hc2 : n2 + n ≤ rm.slots)
    (kk : ∀ q, h q = none → eB G ≤ q → VV G x (n1 + 1) (n2 + n) (hup h q (aI G n (fun _ => 0))) nx lv (.ref q :: st)) : VV G x n1 n2 h pc lv (.int (nI n) :: st) :=
  r_newA (t := 0) (a0 := fun _ => aI G n (fun _ => 0)) C d hw rfl (by decide) rfl (fun U cA q => q) (fun q H1 e => e) (by omega) (by show n * 4 ≤ _; omega) hc1 hc2 kk
theorem r_newJ (C : cxOk G own cc rm nL x) {n : Nat} (d : dn cc pc (.newarray .long) 2 nx) (hw : Cond.arrayClass .long ∈ TB) (hn : n < 67108864) (hc1 : n1 + 1 ≤ rm.cells) (hc2 : n2 + n ≤ rm.slots)
    (kk : ∀ q, h q = none → eB G ≤ q → VV G x (n1 + 1) (n2 + n) (hup h q (aJ G n (fun _ => 0))) nx lv (.ref q :: st)) : VV G x n1 n2 h pc lv (.int (nI n) :: st) :=
  r_newA (t := 1) (a0 := fun _ => aJ G n (fun _ => 0)) C d hw rfl (by decide) rfl (fun U cA q => q) (fun q H1 e => e) (by omega) (by show n * 8 ≤ _; omega) hc1 hc2 kk
theorem r_newR (C : cxOk G own cc rm nL x) {n i t : Nat} {CN : String} (d : dn cc pc (.anewarray i) 3 nx) (hw : Cond.classLink own i CN ∈ TB) (hao : ∀ U, gK G U → va_AO CN U) (ht : (tyL G)[t]? = some (G.2.1 t, .object CN)) (hn : n < 134217728) (hc1 : n1 + 1 ≤ rm.cells) (hc2 : n2 + n ≤ rm.slots)
    (kk : ∀ q, h q = none → eB G ≤ q → VV G x (n1 + 1) (n2 + n) (hup h q (aR G t n (fun _ => none))) nx lv (.ref q :: st)) : VV G x n1 n2 h pc lv (.int (nI n) :: st) := by
  obtain ⟨p, l, e, R, s, m, args, below, meth, c, Q, n'⟩ := x
  obtain ⟨d, rfl⟩ := d
  intro H locs ls hh hS hl
  obtain ⟨c1, c2, c3, c4, c5, c6, c7, c8, rfl, c10, c11⟩ := C
  have hcl : (nI n).toNatClampNeg = n := nI_clamp (by omega)
  refine W.anew c1 c2 c4 (c5 _ hw) (va_AO.use (hao _ c6)) rfl d rfl (nI_pos (by omega)) (by rw [hcl]; omega) hc1 (by rw [hcl]; exact hc2) fun cA kA comp f1 f2 f3 f4 => ?_
  rw [hcl]
  generalize hH1 : H.push ({ cls := cA, slots := Array.replicate n .null, vm := .none } : Cell) = H1
  have z1 : H1.size = H.size + 1 := by rw [← hH1, Array.size_push]
  have e1 : H1[H.size]? = some (arrV cA n (fun _ => .null)) := by rw [← hH1, Array.getElem?_push_size, ← arrV_new]
  have o1 : ∀ q : Nat, q < H.size → H1[q]? = H[q]? := fun q hq => by rw [← hH1, Array.getElem?_push, if_neg (Nat.ne_of_lt hq)]
  obtain ⟨-, kA', comp', g1, g2, g3, g4⟩ := c6.1.2 t _ ht
  have hcA : cA = G.2.1 t := Option.some.inj (f1.symm.trans g4)
  subst hcA
  refine kk H.size hh.fresh hh.1 H1 locs ls (hh.new z1 o1 ?_) ⟨Nat.le_trans hS.1 (by omega), fun y y1 y2 => (o1 y (Nat.lt_of_lt_of_le y1 hS.1)).trans (hS.2.1 y y1 y2), hS.2.2⟩ hl
  show H1[H.size]? = some (vp_cell _ _)
  rw [vp_cell_q]
  exact e1
def nwOk (own : String) (i ci : Nat) (fs : List Value) (N : Nat) : Prop := ∃ (C : String) (T : u_T) (ty : Nat → FieldType), vwCl[ci]? = some (C, T, N) ∧ (∀ w ∈ u_ws C T N, w ∈ TB) ∧ (∀ k, k < N → parseFieldDescriptor (T k).2.2.1 = some (ty k)) ∧ Cond.classLink own i C ∈ TB ∧ Cond.instantiable C N ∈ TB ∧ Cond.initialized C ∈ TB ∧ (∀ j, j < N → defaultValue (ty j) = vp_V fs j)
theorem r_new (C : cxOk G own cc rm nL x) {i ci N : Nat} {fs : List Value} (d : dn cc pc (.new i) 3 nx) (F : nwOk own i ci fs N) (hc1 : n1 + 1 ≤ rm.cells) (hc2 : n2 + N ≤ rm.slots)
    (kk : ∀ q, h q = none → eB G ≤ q → VV G x (n1 + 1) (n2 + N) (hup h q (.inr (ci, fs))) nx lv (.ref q :: st)) : VV G x n1 n2 h pc lv st := by
  obtain ⟨p, l, e, R, s, m, args, below, meth, c, Q, n'⟩ := x
  obtain ⟨d, rfl⟩ := d
  obtain ⟨CN, T, ty, f1, f2, f3, f4, f5, f6, f7⟩ := F
  intro H locs ls hh hS hl
  obtain ⟨c1, c2, c3, c4, c5, c6, c7, c8, rfl, c10, c11⟩ := C
  have hKn := c6.1.1 ci _ f1
  refine W.newcK c1 c2 c4 (c5 _ f4) (c5 _ f5) (c5 _ f6) rfl d hc1 hc2 hKn.2.1 rfl fun H1 kC hkC e1 z1 o1 => ?_
  exact kk H.size hh.fresh hh.1 H1 locs ls (hh.new z1 o1 ⟨_, f1, (u_born ty c5 f2 hKn hkC e1 f3).to f7⟩) ⟨Nat.le_trans hS.1 (by omega), fun y y1 y2 => (o1 y (Nat.lt_of_lt_of_le y1 hS.1)).trans (hS.2.1 y y1 y2), hS.2.2⟩ hl
theorem r_obj (C : cxOk G own cc rm nL x) {i a : Nat} (d : dn cc pc (.invokespecial i) 3 nx) (hw : Cond.methodLink own i objectInit ∈ TB) (hw2 : Cond.instanceMethod objectInit ∈ TB) (hw3 : Cond.code objectInit ⟨#[0xb1]⟩ 1 none ∈ TB) (hf : 1 ≤ rm.frames) (hlo : (st.map fun v => v.category).sum + 12 ≤ rm.locals)
    (kk : VV G x n1 n2 h nx lv st) : VV G x n1 n2 h pc lv (.ref a :: st) := by
  obtain ⟨p, l, e, R, s, m, args, below, meth, c, Q, n'⟩ := x
  obtain ⟨d, rfl⟩ := d
  intro H locs ls hh hS hl
  obtain ⟨c1, c2, c3, c4, c5, c6, c7, c8, rfl, rfl, c11⟩ := C
  exact W.objInit c1 c2 c4 (c5 _ hw) (c5 _ hw2) (c5 _ hw3) rfl (hl.1.trans c3.symm) rfl d hf (by show 2 * 0 + _ + 12 ≤ _; omega) (kk H locs ls hh hS hl)
end ROWS
