theorem tw_317 : (Jvm.Cond.methodLink "Corpusline" (106 : Nat) ({ cls := "Corpusline", name := "demandRoomForTest", desc := "()V" } : Jvm.MethodName)) ∈ TB := tb_of 317 (by decide +kernel) rfl
theorem tw_319 : (Jvm.Cond.instanceMethod ({ cls := "Corpusline", name := "demandRoomForTest", desc := "()V" } : Jvm.MethodName)) ∈ TB := tb_of 319 (by decide +kernel) rfl
theorem tw_320 : (Jvm.Cond.code ({ cls := "Corpusline", name := "demandRoomForTest", desc := "()V" } : Jvm.MethodName) prog_1_method_34_code (1 : Nat) (Option.none : Option Jvm.ClassFile.FieldType)) ∈ TB := tb_of 320 (by decide +kernel) rfl
theorem tw_326 : (Jvm.Cond.methodLink "Corpusline" (109 : Nat) ({ cls := "Corpusline$TokenTest", name := "ofValue", desc := "(IIZ)LCorpusline$TokenTest;" } : Jvm.MethodName)) ∈ TB := tb_of 326 (by decide +kernel) rfl
theorem tw_327 : (Jvm.Cond.static ({ cls := "Corpusline$TokenTest", name := "ofValue", desc := "(IIZ)LCorpusline$TokenTest;" } : Jvm.MethodName)) ∈ TB := tb_of 327 (by decide +kernel) rfl
theorem tw_328 : (Jvm.Cond.code ({ cls := "Corpusline$TokenTest", name := "ofValue", desc := "(IIZ)LCorpusline$TokenTest;" } : Jvm.MethodName) prog_6_method_3_code (8 : Nat) (Option.some (Jvm.ClassFile.FieldType.object "Corpusline$TokenTest"))) ∈ TB := tb_of 328 (by decide +kernel) rfl
theorem tw_349 : (Jvm.Cond.methodLink "Corpusline" (115 : Nat) ({ cls := "Corpusline$Part", name := "ofTest", desc := "(LCorpusline$TokenTest;)LCorpusline$Part;" } : Jvm.MethodName)) ∈ TB := tb_of 349 (by decide +kernel) rfl
theorem tw_350 : (Jvm.Cond.static ({ cls := "Corpusline$Part", name := "ofTest", desc := "(LCorpusline$TokenTest;)LCorpusline$Part;" } : Jvm.MethodName)) ∈ TB := tb_of 350 (by decide +kernel) rfl
theorem tw_351 : (Jvm.Cond.code ({ cls := "Corpusline$Part", name := "ofTest", desc := "(LCorpusline$TokenTest;)LCorpusline$Part;" } : Jvm.MethodName) prog_2_method_2_code (2 : Nat) (Option.some (Jvm.ClassFile.FieldType.object "Corpusline$Part"))) ∈ TB := tb_of 351 (by decide +kernel) rfl
theorem tw_396 : (Jvm.Cond.methodLink "Corpusline" (119 : Nat) ({ cls := "Corpusline", name := "push", desc := "(LCorpusline$Part;)I" } : Jvm.MethodName)) ∈ TB := tb_of 396 (by decide +kernel) rfl
theorem tw_398 : (Jvm.Cond.instanceMethod ({ cls := "Corpusline", name := "push", desc := "(LCorpusline$Part;)I" } : Jvm.MethodName)) ∈ TB := tb_of 398 (by decide +kernel) rfl
theorem tw_399 : (Jvm.Cond.code ({ cls := "Corpusline", name := "push", desc := "(LCorpusline$Part;)I" } : Jvm.MethodName) prog_1_method_37_code (2 : Nat) (Option.some Jvm.ClassFile.FieldType.int)) ∈ TB := tb_of 399 (by decide +kernel) rfl
theorem tw_404 : (Jvm.Cond.methodLink "Corpusline" (123 : Nat) ({ cls := "Corpusline$TokenTest", name := "ofSames", desc := "(I)LCorpusline$TokenTest;" } : Jvm.MethodName)) ∈ TB := tb_of 404 (by decide +kernel) rfl
theorem ts_4 : Cond.selects "Corpusline" ({ cls := "Corpusline", name := "demandRoomForTest", desc := "()V" } : MethodName) ({ cls := "Corpusline", name := "demandRoomForTest", desc := "()V" } : MethodName) ∈ TB := tb_sel 4 (by decide +kernel) rfl
theorem ts_6 : Cond.selects "Corpusline" ({ cls := "Corpusline", name := "push", desc := "(LCorpusline$Part;)I" } : MethodName) ({ cls := "Corpusline", name := "push", desc := "(LCorpusline$Part;)I" } : MethodName) ∈ TB := tb_sel 6 (by decide +kernel) rfl
theorem ok_RX6_109 : okS RX6 109 yX4_ofValue cX4_ofValue 8 (Option.some (Jvm.ClassFile.FieldType.object "Corpusline$TokenTest")) 3 := ⟨tw_326, tw_327, tw_12, tw_328, ⟨by decide, by decide, by decide +kernel⟩⟩
theorem ok_RX6_115 : okS RX6 115 yX0_ofTest cX0_ofTest 2 (Option.some (Jvm.ClassFile.FieldType.object "Corpusline$Part")) 1 := ⟨tw_349, tw_350, tw_13, tw_351, ⟨by decide, by decide, by decide +kernel⟩⟩
theorem ok_RX6_123 : okS RX6 123 yX4_ofSames cX4_ofSames 3 (Option.some (Jvm.ClassFile.FieldType.object "Corpusline$TokenTest")) 1 := ⟨tw_404, tw_330, tw_12, tw_331, ⟨by decide, by decide, by decide +kernel⟩⟩
theorem ok_RX6_106 : okV RX6 106 yX6_demandRoomForTest cX6_demandRoomForTest 1 (Option.none : Option Jvm.ClassFile.FieldType) 0 := ⟨tw_317, tw_319, ts_4, tw_1, tw_320, ⟨by decide, by decide, by decide +kernel⟩⟩
theorem ok_RX6_119 : okV RX6 119 yX6_push cX6_push 2 (Option.some Jvm.ClassFile.FieldType.int) 1 := ⟨tw_396, tw_398, ts_6, tw_1, tw_399, ⟨by decide, by decide, by decide +kernel⟩⟩
section KL
variable {G : eG} {x : CX} {ad : Nat → Nat → Nat} {h0 : hp} {g : mS} {n1 n2 : Nat} {pc nx : Nat} {lv : List (Nat × Value)} {st rest : List Value} {own : String} {cc b : ByteArray} {rm R0 : Room} {nL maxL i n : Nat} {y : MethodName} {ret : Option FieldType} {As : List Value} {post : Option Value → cL → Prop}
/-- a maker is called from the class's worlds -/
theorem k_callL (C : cxOk G own cc R0 nL x) (d : dn cc pc (.invokestatic i) 3 nx) (F : okS own i y b maxL ret n) (K : ∀ l h, co G ad g h → cfr ad h0 h → kL l G h [] y b maxL ret rm As post) (hn : As.length = n) (hst : st = As.reverse ++ rest) (hcat : (rest.map fun v => v.category).sum ≤ 8) (hR : rmIn rm R0 maxL n1 n2)
    (kk : ∀ v h h' L', co G ad g h → post v L' → cfr ad h0 h → hle h h' → nwl h L' → cel L' h' → VC G x ad h' g (n1 + rm.cells) (n2 + rm.slots) nx lv (v.toList ++ rest)) : VC G x ad h0 g n1 n2 pc lv st := fun h hm hf => r_callS C d F (fun l _ => K l h hm hf h hle_rf nwl_nil cel_nil) hn hst hcat hR (fun v h' ⟨L', e, q9, r9, s9⟩ => kk v h h' L' hm e hf q9 r9 s9 h' (hm.le q9) cfr_rf)
theorem k_callLV (C : cxOk G own cc R0 nL x) (d : dn cc pc (.invokevirtual i) 3 nx) (F : okV own i y b maxL ret n) {a ci : Nat} {fs : List Value} {r : vw_C} (K : ∀ l h, co G ad g h → cfr ad h0 h → kL l G h [] y b maxL ret rm (.ref a :: As) post) (ha : nr ad a) (he : h0 a = some (oC ci fs)) (hcl : vwCl[ci]? = some r) (hcy : r.1 = y.cls) (hn : As.length = n) (hst : st = As.reverse ++ .ref a :: rest) (hcat : (rest.map fun v => v.category).sum ≤ 8) (hR : rmIn rm R0 maxL n1 n2)
    (kk : ∀ v h h' L', co G ad g h → post v L' → cfr ad h0 h → hle h h' → nwl h L' → cel L' h' → VC G x ad h' g (n1 + rm.cells) (n2 + rm.slots) nx lv (v.toList ++ rest)) : VC G x ad h0 g n1 n2 pc lv st := fun h hm hf => r_callV C d F (fun l _ => K l h hm hf h hle_rf nwl_nil cel_nil) (hf a _ ha.w he) hcl hcy hn hst hcat hR (fun v h' ⟨L', e, q9, r9, s9⟩ => kk v h h' L' hm e hf q9 r9 s9 h' (hm.le q9) cfr_rf)
theorem k_callM (C : cxOk G own cc R0 nL x) (d : dn cc pc (.invokestatic i) 3 nx) (F : okS own i y b maxL ret n) {Q : hp → Option Value → hp → Prop} (K : ∀ l h, co G ad g h → cfr ad h0 h → MC l G y b maxL ret rm As h (Q h)) (hq : ∀ h v h', Q h v h' → hle h h') (hn : As.length = n) (hst : st = As.reverse ++ rest) (hcat : (rest.map fun v => v.category).sum ≤ 8) (hR : rmIn rm R0 maxL n1 n2)
    (kk : ∀ v h h', co G ad g h → Q h v h' → cfr ad h0 h → hle h h' → VC G x ad h' g (n1 + rm.cells) (n2 + rm.slots) nx lv (v.toList ++ rest)) : VC G x ad h0 g n1 n2 pc lv st := fun h hm hf => r_callS C d F (fun l _ => K l h hm hf) hn hst hcat hR (fun v h' e => kk v h h' hm e hf (hq _ _ _ e) h' (hm.le (hq _ _ _ e)) cfr_rf)
end KL
theorem tcl_t {G : eG} {ad : Nat → Nat → Nat} {g : mS} {h h' : hp} {a p s lb : Nat} {P : Nat → Nat} (c : co G ad g h) (w : nwl h (tcl G a p P s lb)) (d : cel (tcl G a p P s lb) h') : tst G ad h' a P s lb := ⟨c.nw (w.1 1 _ rfl), p, c.nw (w.1 0 _ rfl), d 1 _ rfl, d 0 _ rfl⟩
theorem new_none {ad : Nat → Nat → Nat} {h h' : hp} {t : Nat} (F : cfr ad h h') (n : nrw ad t) (z : h' t = none) : h t = none := by
  cases e : h t with
  | none => rfl
  | some y => have := F t y n e; rw [z] at this; cases this
/-- a part in numbers, of the class's worlds -/
def prA (G : eG) (ad : Nat → Nat → Nat) (h : hp) (a : Nat) (x : pA) (is : Bool) : Prop := prt G ad h a x.1 x.2.1 x.2.2.1 x.2.2.2.1 x.2.2.2.2.1 is x.2.2.2.2.2.1 x.2.2.2.2.2.2
theorem prA.mv {G : eG} {ad : Nat → Nat → Nat} {h h' : hp} {a : Nat} {x : pA} {is : Bool} (t : prA G ad h a x is) (c : cfr ad h h') : prA G ad h' a x is := prt.mv t c
theorem pnw_p {G : eG} {ad : Nat → Nat → Nat} {g : mS} {h h' : hp} {a : Nat} {x : pA} {is : Bool} (c : co G ad g h) (p : pnw G h h' a x is) : prA G ad h' a x is := by
  obtain ⟨pt, pn, p1, p2, p3, p4, p5, p6⟩ := p
  exact ⟨c.nw p1, pt, pn, c.nw p2, c.nw p3, p4, p5, p6⟩
theorem pcl_p {G : eG} {ad : Nat → Nat → Nat} {g : mS} {h h' : hp} {a pt pn n fi la rs : Nat} {no is : Bool} {nx tt : Nat → Nat} (c : co G ad g h) (w : nwl h (pcl G a pt pn n fi la rs no is nx tt)) (d : cel (pcl G a pt pn n fi la rs no is nx tt) h') : prA G ad h' a (n, fi, la, rs, no, nx, tt) is := pnw_p c (pcl_nw w d)
theorem prA.co {G : eG} {ad : Nat → Nat → Nat} {h : hp} {a : Nat} {x : pA} {is : Bool} (t : prA G ad h a x is) (q : ∀ j, j < x.1 → ∃ P s lb, tst G ad h (x.2.2.2.2.2.2 j) P s lb) : pco G h a x is := by
  obtain ⟨na, pt, pn, n1, n2, h1, h2, h3⟩ := t
  refine ⟨pt, pn, h1, h2, h3, fun j hj => ?_⟩
  obtain ⟨P, s, lb, _, p, _, e, _⟩ := q j hj
  exact ⟨_, e⟩
theorem l_ofTestT {l : Launch} {G : eG} {ad : Nat → Nat → Nat} {h : hp} {t : Nat} {P : Nat → Nat} {s lb : Nat} (T : tst G ad h t P s lb) (hs : s < 512) : kL l G h [] yX0_ofTest cX0_ofTest 2 (Option.some (Jvm.ClassFile.FieldType.object "Corpusline$Part")) { frames := 2, cells := 3, slots := 23, locals := 42 } [.ref t] (fun v9 L9 => ∃ a pt pn, v9 = some (.ref a) ∧ L9 = pcl G a pt pn 1 1 1 (rsF s 9) false true (fun _ => 0) (fun _ => t)) := by
  obtain ⟨_, p, _, e, _⟩ := T
  exact l_ofTest e hs
/-- a part on the pile -/
def psh (g : mS) (a : Nat) : mS := uK (uN g 60 (mK g 16) (a + 1)) 16 (mK g 16 + 1)
theorem pile_7 {g : mS} (h1 : ∀ i, i < mK g 16 → 1 ≤ mN g 8 (12 + i)) (h : sumTo (fun i => mN g 8 (12 + i)) (mK g 16) < 8) : mK g 16 < 8 := by
  have e : sumTo (fun _ => 1) (mK g 16) ≤ sumTo (fun i => mN g 8 (12 + i)) (mK g 16) := sumTo_mono h1
  have f : ∀ k, sumTo (fun _ => 1) k = k := fun k => by
    induction k with
    | zero => rfl
    | succ k ih => rw [sumTo, ih]
  rw [f] at e
  omega
/-- the pile's parts, with so many tests each -/
def pil (G : eG) (ad : Nat → Nat → Nat) (h : hp) (g : mS) : Prop := mK g 16 ≤ 8 ∧ ∀ i, i < mK g 16 → (0 < mN g 60 i ∧ mN g 8 (12 + i) < 9 ∧ ptn G ad h (mN g 60 i - 1) (mN g 8 (12 + i))) ∧ 1 ≤ mN g 8 (12 + i)
theorem cTest_1 {S : mS} {a v : Int32} (h : inR a 0 2 = false ∨ inR v 0 99 = false) : cTest S a v = 1 := if_neg (by
  rcases h with h | h <;> simp [h])
theorem cTest_2 {S : mS} {a v : Int32} (h1 : inR a 0 2 = true) (h2 : inR v 0 99 = true) (h : mTests S = 8) : cTest S a v = 2 := by rw [cTest, h1, h2, if_pos (show (true && true) = true from rfl), if_pos h]
theorem cTest_T {S : mS} {a v : Int32} (h1 : inR a 0 2 = true) (h2 : inR v 0 99 = true) (h : mTests S ≠ 8) : cTest S a v = 0 := by rw [cTest, h1, h2, if_pos (show (true && true) = true from rfl), if_neg h]
theorem cSame_1 {S : mS} {a v : Int32} (h : inR a 0 2 = false ∨ inR v 0 2 = false) : cSame S a v = 1 := if_neg (by
  rcases h with h | h <;> simp [h])
theorem cSame_2 {S : mS} {a v : Int32} (h1 : inR a 0 2 = true) (h2 : inR v 0 2 = true) (h : mTests S = 8) : cSame S a v = 2 := by rw [cSame, h1, h2, if_pos (show (true && true) = true from rfl), if_pos h]
theorem cSame_T {S : mS} {a v : Int32} (h1 : inR a 0 2 = true) (h2 : inR v 0 2 = true) (h : mTests S ≠ 8) : cSame S a v = 0 := by rw [cSame, h1, h2, if_pos (show (true && true) = true from rfl), if_neg h]
theorem two9 {a l : Nat} (ha : a < 3) (hl : l < 3) : 1 * 2 ^ (a * 3 + l) < 512 := by
  have : (2:Nat) ^ (a * 3 + l) ≤ 2 ^ 8 := Nat.pow_le_pow_right (by decide) (by omega)
  omega
def dl_X6_test : List (Nat × Instr × Nat) := [(0, .iload_n 1, 1), (1, .iconst 0, 1), (2, .iconst 2, 1), (3, .invokestatic 57, 3), (6, .iload_n 2, 1), (7, .iconst 0, 1), (8, .bipush 99, 2), (10, .invokestatic 57, 3), (13, .aload_n 0, 1), (14, .invokevirtual 106, 3), (17, .aload_n 0, 1), (18, .iload_n 1, 1), (19, .iload_n 2, 1), (20, .iload_n 3, 1), (21, .invokestatic 109, 3), (24, .invokestatic 115, 3), (27, .invokevirtual 119, 3), (30, .ireturn, 1)]
theorem dc_X6_test : dnL cX6_test dl_X6_test = true := by decide +kernel
theorem d_X6_test_0 : dn cX6_test 0 (.iload_n 1) 1 1 := dnAt dc_X6_test 0 rfl rfl
theorem d_X6_test_1 : dn cX6_test 1 (.iconst 0) 1 2 := dnAt dc_X6_test 1 rfl rfl
theorem d_X6_test_2 : dn cX6_test 2 (.iconst 2) 1 3 := dnAt dc_X6_test 2 rfl rfl
theorem d_X6_test_3 : dn cX6_test 3 (.invokestatic 57) 3 6 := dnAt dc_X6_test 3 rfl rfl
theorem d_X6_test_6 : dn cX6_test 6 (.iload_n 2) 1 7 := dnAt dc_X6_test 4 rfl rfl
theorem d_X6_test_7 : dn cX6_test 7 (.iconst 0) 1 8 := dnAt dc_X6_test 5 rfl rfl
theorem d_X6_test_8 : dn cX6_test 8 (.bipush 99) 2 10 := dnAt dc_X6_test 6 rfl rfl
theorem d_X6_test_10 : dn cX6_test 10 (.invokestatic 57) 3 13 := dnAt dc_X6_test 7 rfl rfl
theorem d_X6_test_13 : dn cX6_test 13 (.aload_n 0) 1 14 := dnAt dc_X6_test 8 rfl rfl
theorem d_X6_test_14 : dn cX6_test 14 (.invokevirtual 106) 3 17 := dnAt dc_X6_test 9 rfl rfl
theorem d_X6_test_17 : dn cX6_test 17 (.aload_n 0) 1 18 := dnAt dc_X6_test 10 rfl rfl
theorem d_X6_test_18 : dn cX6_test 18 (.iload_n 1) 1 19 := dnAt dc_X6_test 11 rfl rfl
theorem d_X6_test_19 : dn cX6_test 19 (.iload_n 2) 1 20 := dnAt dc_X6_test 12 rfl rfl
theorem d_X6_test_20 : dn cX6_test 20 (.iload_n 3) 1 21 := dnAt dc_X6_test 13 rfl rfl
theorem d_X6_test_21 : dn cX6_test 21 (.invokestatic 109) 3 24 := dnAt dc_X6_test 14 rfl rfl
theorem d_X6_test_24 : dn cX6_test 24 (.invokestatic 115) 3 27 := dnAt dc_X6_test 15 rfl rfl
theorem d_X6_test_27 : dn cX6_test 27 (.invokevirtual 119) 3 30 := dnAt dc_X6_test 16 rfl rfl
theorem d_X6_test_30 : dn cX6_test 30 (.ireturn) 1 31 := dnAt dc_X6_test 17 rfl rfl
set_option maxHeartbeats 4000000 in
set_option maxRecDepth 100000 in
theorem k_test {l : Launch} {G : eG} {ad : Nat → Nat → Nat} {h : hp} {g : mS} {attr value : Int32} {o : Bool} (hlf : l.stackTraces = false) (hm : co G ad g h) (I : mInv g) (L8 : pil G ad h g) : kX l G ad h yX6_test cX6_test 4 (Option.some Jvm.ClassFile.FieldType.int) { frames := 7, cells := 9, slots := 51, locals := 112 } [.ref (ad 0 0), .int attr, .int value, .int (bI o)] (fun v9 g9 h9 => v9 = some (.int (nI (rPut g (cTest g attr value)))) ∧ cTest g attr value = 0 ∧ ∃ a t, g9 = psh g a ∧ prA G ad h9 a (1, 1, 1, rsF (0) 9, false, (fun _ => 0), fun _ => t) true ∧ tst G ad h9 t (if o = true then othP (tn attr) (tn value) else valP (tn attr) (tn value)) (0) 0 ∧ h t = none) (fun E9 g9 => (E9 = "java/lang/IllegalArgumentException" ∧ cTest g attr value = 1 ∨ E9 = "java/lang/IllegalStateException" ∧ cTest g attr value = 2) ∧ g9 = g) := by
  refine kX.of hlf hm (by decide) (Nat.le_of_ble_eq_true rfl) ?_
  intro x C A TY X
  show VC G x ad h g 0 0 0 [(0, .ref (ad 0 0)), (1, .int attr), (2, .int value), (3, .int (bI o))] []
  refine c_iload_n C d_X6_test_0 1 rfl ?_
  refine c_iconst C d_X6_test_1 (v := (nI 0)) rfl ?_
  refine c_iconst C d_X6_test_2 (v := (nI 2)) rfl ?_
  refine k_callSX C X cfr_rf d_X6_test_3 ok_RX6_57 (fun l h hl hm hf => k_demandRange hl hm attr ((nI 0)) ((nI 2))) (rest := []) rfl rfl (Nat.le_of_ble_eq_true rfl) ⟨⟨by decide, by decide⟩, Nat.le_of_ble_eq_true rfl, Nat.le_of_ble_eq_true rfl⟩ (fun _ _ e => ⟨Or.inl ⟨e.1, cTest_1 (Or.inl e.2.1)⟩, e.2.2⟩) (fun v9 g9 hq1 e9 F1 => ?_)
  obtain ⟨rfl, z1, i1⟩ := e9
  refine c_eq z1 ?_
  refine c_base F1 ?_
  show VC G x ad h g 1 6 6 [(0, .ref (ad 0 0)), (1, .int attr), (2, .int value), (3, .int (bI o))] []
  refine c_iload_n C d_X6_test_6 2 rfl ?_
  refine c_iconst C d_X6_test_7 (v := (nI 0)) rfl ?_
  refine c_bipush C d_X6_test_8 (v := (nI 99)) rfl ?_
  refine k_callSX C X cfr_rf d_X6_test_10 ok_RX6_57 (fun l h hl hm hf => k_demandRange hl hm value ((nI 0)) ((nI 99))) (rest := []) rfl rfl (Nat.le_of_ble_eq_true rfl) ⟨⟨by decide, by decide⟩, Nat.le_of_ble_eq_true rfl, Nat.le_of_ble_eq_true rfl⟩ (fun _ _ e => ⟨Or.inl ⟨e.1, cTest_1 (Or.inr e.2.1)⟩, e.2.2⟩) (fun v9 g9 hq2 e9 F2 => ?_)
  obtain ⟨rfl, z2, i2⟩ := e9
  refine c_eq z2 ?_
  refine c_base F2 ?_
  show VC G x ad h g 2 12 13 [(0, .ref (ad 0 0)), (1, .int attr), (2, .int value), (3, .int (bI o))] []
  replace i1 : inR attr 0 2 = true := i1
  replace i2 : inR value 0 99 = true := i2
  obtain ⟨j1, -, s1⟩ := inR_of i1 (by decide) (by decide)
  obtain ⟨j2, -, s2⟩ := inR_of i2 (by decide) (by decide)
  refine c_lve (lv' := [(0, .ref (ad 0 0)), (1, .int (nI (tn attr))), (2, .int (nI (tn value))), (3, .int (bI o))]) (by rw [← j1, ← j2]) ?_
  refine c_aload_n C d_X6_test_13 0 rfl ?_
  refine k_callVX C X cfr_rf d_X6_test_14 ok_RX6_106 (k := 0) (i' := 0) (fun l h hl hm hf => k_demandRoom (N := fun i => mN g 8 (12 + i)) hl hm L8.1 (fun i hi => ⟨(L8.2 i hi).1.1, (L8.2 i hi).1.2.1, (L8.2 i hi).1.2.2.mv hf⟩)) rfl rfl rfl rfl (rest := []) rfl rfl (Nat.le_of_ble_eq_true rfl) ⟨⟨by decide, by decide⟩, Nat.le_of_ble_eq_true rfl, Nat.le_of_ble_eq_true rfl⟩ (fun _ _ e => ⟨Or.inr (⟨e.1, cTest_2 i1 i2 (Nat.le_antisymm (mTests_le I) e.2.1)⟩), e.2.2⟩) (fun v9 g9 hq3 e9 F3 => ?_)
  obtain ⟨rfl, z3, i3⟩ := e9
  refine c_eq z3 ?_
  have k7 := pile_7 (fun i hi => (L8.2 i hi).2) i3
  refine c_base F3 ?_
  show VC G x ad h g 3 18 17 [(0, .ref (ad 0 0)), (1, .int (nI (tn attr))), (2, .int (nI (tn value))), (3, .int (bI o))] []
  refine c_aload_n C d_X6_test_17 0 rfl ?_
  refine c_iload_n C d_X6_test_18 1 rfl ?_
  refine c_iload_n C d_X6_test_19 2 rfl ?_
  refine c_iload_n C d_X6_test_20 3 rfl ?_
  refine k_callL C d_X6_test_21 ok_RX6_109 (fun l h hm hf => l_ofValue (by omega) (by omega)) (rest := [.ref (ad 0 0)]) rfl rfl (Nat.le_of_ble_eq_true rfl) ⟨⟨by decide, by decide⟩, Nat.le_of_ble_eq_true rfl, Nat.le_of_ble_eq_true rfl⟩ (fun v9 hp4 hq4 L4 M4 e9 F4 l4 w4 c4 => ?_)
  obtain ⟨t4, p4, rfl, rfl⟩ := e9
  show VC G x ad hq4 g 5 27 24 [(0, .ref (ad 0 0)), (1, .int (nI (tn attr))), (2, .int (nI (tn value))), (3, .int (bI o))] [.ref t4, .ref (ad 0 0)]
  have T4 := tcl_t M4 w4 c4
  refine k_callL C d_X6_test_24 ok_RX6_115 (fun l h hm hf => l_ofTestT (T4.mv hf) (by decide)) (rest := [.ref (ad 0 0)]) rfl rfl (Nat.le_of_ble_eq_true rfl) ⟨⟨by decide, by decide⟩, Nat.le_of_ble_eq_true rfl, Nat.le_of_ble_eq_true rfl⟩ (fun v9 hp5 hq5 L5 M5 e9 F5 l5 w5 c5 => ?_)
  obtain ⟨a5, pt5, pn5, rfl, rfl⟩ := e9
  show VC G x ad hq5 g 8 50 27 [(0, .ref (ad 0 0)), (1, .int (nI (tn attr))), (2, .int (nI (tn value))), (3, .int (bI o))] [.ref a5, .ref (ad 0 0)]
  have Q5 := pcl_p M5 w5 c5
  have T5 := T4.mv (cfr.le F5 l5)
  obtain ⟨na5, pt5, pn5, y15, y25, y35, y45, y55⟩ := id Q5
  refine k_callV C d_X6_test_27 ok_RX6_119 (k := 0) (i' := 0) (fun l h hm hf => k_push hm (k7) (na5) (hf _ _ na5.w y35)) rfl rfl rfl rfl (rest := []) rfl rfl (Nat.le_of_ble_eq_true rfl) ⟨⟨by decide, by decide⟩, Nat.le_of_ble_eq_true rfl, Nat.le_of_ble_eq_true rfl⟩ (fun v9 g9 hq6 e9 F6 => ?_)
  obtain ⟨rfl, z6⟩ := e9
  refine c_eq z6 ?_
  refine c_base F6 ?_
  show VC G x ad hq5 (uK (uN g 60 (mK g 16) (a5 + 1)) 16 (mK g 16 + 1)) 8 50 30 [(0, .ref (ad 0 0)), (1, .int (nI (tn attr))), (2, .int (nI (tn value))), (3, .int (bI o))] [.int (nI (mK g 16 + 1))]
  have c0 := cTest_T i1 i2 (show mTests g ≠ 8 from fun z => by have z2 : sumTo (fun i => mN g 8 (12 + i)) (mK g 16) = 8 := z; omega)
  refine c_st (st' := [.int (nI (rPut g (cTest g attr value)))]) (by rw [rPut, if_pos c0]) ?_
  exact k_iret C A (cfr_tr (cfr_tr cfr_rf (cfr.le F4 l4)) (cfr.le F5 l5)) TY d_X6_test_30 rfl (Nat.le_of_ble_eq_true rfl) (Nat.le_of_ble_eq_true rfl) (fun h9 F9 => ⟨rfl, c0, a5, t4, rfl, Q5.mv F9, T5.mv F9, new_none F4 T4.1.w (w4.1 1 _ rfl)⟩)
def dl_X6_any : List (Nat × Instr × Nat) := [(0, .aload_n 0, 1), (1, .invokevirtual 106, 3), (4, .aload_n 0, 1), (5, .iconst 0, 1), (6, .invokestatic 123, 3), (9, .invokestatic 115, 3), (12, .invokevirtual 119, 3), (15, .ireturn, 1)]
theorem dc_X6_any : dnL cX6_any dl_X6_any = true := by decide +kernel
theorem d_X6_any_0 : dn cX6_any 0 (.aload_n 0) 1 1 := dnAt dc_X6_any 0 rfl rfl
theorem d_X6_any_1 : dn cX6_any 1 (.invokevirtual 106) 3 4 := dnAt dc_X6_any 1 rfl rfl
theorem d_X6_any_4 : dn cX6_any 4 (.aload_n 0) 1 5 := dnAt dc_X6_any 2 rfl rfl
theorem d_X6_any_5 : dn cX6_any 5 (.iconst 0) 1 6 := dnAt dc_X6_any 3 rfl rfl
theorem d_X6_any_6 : dn cX6_any 6 (.invokestatic 123) 3 9 := dnAt dc_X6_any 4 rfl rfl
theorem d_X6_any_9 : dn cX6_any 9 (.invokestatic 115) 3 12 := dnAt dc_X6_any 5 rfl rfl
theorem d_X6_any_12 : dn cX6_any 12 (.invokevirtual 119) 3 15 := dnAt dc_X6_any 6 rfl rfl
theorem d_X6_any_15 : dn cX6_any 15 (.ireturn) 1 16 := dnAt dc_X6_any 7 rfl rfl
set_option maxHeartbeats 4000000 in
set_option maxRecDepth 100000 in
theorem k_any {l : Launch} {G : eG} {ad : Nat → Nat → Nat} {h : hp} {g : mS} (hlf : l.stackTraces = false) (hm : co G ad g h) (I : mInv g) (L8 : pil G ad h g) : kX l G ad h yX6_any cX6_any 1 (Option.some Jvm.ClassFile.FieldType.int) { frames := 7, cells := 7, slots := 39, locals := 110 } [.ref (ad 0 0)] (fun v9 g9 h9 => v9 = some (.int (nI (rPut g (cAny g)))) ∧ cAny g = 0 ∧ ∃ a t, g9 = psh g a ∧ prA G ad h9 a (1, 1, 1, rsF (0) 9, false, (fun _ => 0), fun _ => t) true ∧ tst G ad h9 t (allP) (0) 0 ∧ h t = none) (fun E9 g9 => (E9 = "java/lang/IllegalStateException" ∧ cAny g = 1) ∧ g9 = g) := by
  refine kX.of hlf hm (by decide) (Nat.le_of_ble_eq_true rfl) ?_
  intro x C A TY X
  show VC G x ad h g 0 0 0 [(0, .ref (ad 0 0))] []
  refine c_aload_n C d_X6_any_0 0 rfl ?_
  refine k_callVX C X cfr_rf d_X6_any_1 ok_RX6_106 (k := 0) (i' := 0) (fun l h hl hm hf => k_demandRoom (N := fun i => mN g 8 (12 + i)) hl hm L8.1 (fun i hi => ⟨(L8.2 i hi).1.1, (L8.2 i hi).1.2.1, (L8.2 i hi).1.2.2.mv hf⟩)) rfl rfl rfl rfl (rest := []) rfl rfl (Nat.le_of_ble_eq_true rfl) ⟨⟨by decide, by decide⟩, Nat.le_of_ble_eq_true rfl, Nat.le_of_ble_eq_true rfl⟩ (fun _ _ e => ⟨⟨e.1, by rw [cAny, if_pos (Nat.le_antisymm (mTests_le I) e.2.1)]⟩, e.2.2⟩) (fun v9 g9 hq1 e9 F1 => ?_)
  obtain ⟨rfl, z1, i1⟩ := e9
  refine c_eq z1 ?_
  have k7 := pile_7 (fun i hi => (L8.2 i hi).2) i1
  refine c_base F1 ?_
  show VC G x ad h g 1 6 4 [(0, .ref (ad 0 0))] []
  refine c_aload_n C d_X6_any_4 0 rfl ?_
  refine c_iconst C d_X6_any_5 (v := (nI 0)) rfl ?_
  refine k_callL C d_X6_any_6 ok_RX6_123 (fun l h hm hf => l_ofSames) (rest := [.ref (ad 0 0)]) rfl rfl (Nat.le_of_ble_eq_true rfl) ⟨⟨by decide, by decide⟩, Nat.le_of_ble_eq_true rfl, Nat.le_of_ble_eq_true rfl⟩ (fun v9 hp2 hq2 L2 M2 e9 F2 l2 w2 c2 => ?_)
  obtain ⟨t2, p2, rfl, rfl⟩ := e9
  show VC G x ad hq2 g 3 15 9 [(0, .ref (ad 0 0))] [.ref t2, .ref (ad 0 0)]
  have T2 := tcl_t M2 w2 c2
  refine k_callL C d_X6_any_9 ok_RX6_115 (fun l h hm hf => l_ofTestT (T2.mv hf) (by decide)) (rest := [.ref (ad 0 0)]) rfl rfl (Nat.le_of_ble_eq_true rfl) ⟨⟨by decide, by decide⟩, Nat.le_of_ble_eq_true rfl, Nat.le_of_ble_eq_true rfl⟩ (fun v9 hp3 hq3 L3 M3 e9 F3 l3 w3 c3 => ?_)
  obtain ⟨a3, pt3, pn3, rfl, rfl⟩ := e9
  show VC G x ad hq3 g 6 38 12 [(0, .ref (ad 0 0))] [.ref a3, .ref (ad 0 0)]
  have Q3 := pcl_p M3 w3 c3
  have T3 := T2.mv (cfr.le F3 l3)
  obtain ⟨na3, pt3, pn3, y13, y23, y33, y43, y53⟩ := id Q3
  refine k_callV C d_X6_any_12 ok_RX6_119 (k := 0) (i' := 0) (fun l h hm hf => k_push hm (k7) (na3) (hf _ _ na3.w y33)) rfl rfl rfl rfl (rest := []) rfl rfl (Nat.le_of_ble_eq_true rfl) ⟨⟨by decide, by decide⟩, Nat.le_of_ble_eq_true rfl, Nat.le_of_ble_eq_true rfl⟩ (fun v9 g9 hq4 e9 F4 => ?_)
  obtain ⟨rfl, z4⟩ := e9
  refine c_eq z4 ?_
  refine c_base F4 ?_
  show VC G x ad hq3 (uK (uN g 60 (mK g 16) (a3 + 1)) 16 (mK g 16 + 1)) 6 38 15 [(0, .ref (ad 0 0))] [.int (nI (mK g 16 + 1))]
  have c0 : cAny g = 0 := by rw [cAny, if_neg (show mTests g ≠ 8 from fun z => by have z2 : sumTo (fun i => mN g 8 (12 + i)) (mK g 16) = 8 := z; omega)]
  refine c_st (st' := [.int (nI (rPut g (cAny g)))]) (by rw [rPut, if_pos c0]) ?_
  exact k_iret C A (cfr_tr (cfr_tr cfr_rf (cfr.le F2 l2)) (cfr.le F3 l3)) TY d_X6_any_15 rfl (Nat.le_of_ble_eq_true rfl) (Nat.le_of_ble_eq_true rfl) (fun h9 F9 => ⟨rfl, c0, a3, t2, rfl, Q3.mv F9, T3.mv F9, new_none F2 T2.1.w (w2.1 1 _ rfl)⟩)
def dl_X6_same : List (Nat × Instr × Nat) := [(0, .iload_n 1, 1), (1, .iconst 0, 1), (2, .iconst 2, 1), (3, .invokestatic 57, 3), (6, .iload_n 2, 1), (7, .iconst 0, 1), (8, .iconst 2, 1), (9, .invokestatic 57, 3), (12, .aload_n 0, 1), (13, .invokevirtual 106, 3), (16, .aload_n 0, 1), (17, .iconst 1, 1), (18, .iload_n 1, 1), (19, .iconst 3, 1), (20, .imul, 1), (21, .iload_n 2, 1), (22, .iadd, 1), (23, .ishl, 1), (24, .invokestatic 123, 3), (27, .invokestatic 115, 3), (30, .invokevirtual 119, 3), (33, .ireturn, 1)]
theorem dc_X6_same : dnL cX6_same dl_X6_same = true := by decide +kernel
theorem d_X6_same_0 : dn cX6_same 0 (.iload_n 1) 1 1 := dnAt dc_X6_same 0 rfl rfl
theorem d_X6_same_1 : dn cX6_same 1 (.iconst 0) 1 2 := dnAt dc_X6_same 1 rfl rfl
theorem d_X6_same_2 : dn cX6_same 2 (.iconst 2) 1 3 := dnAt dc_X6_same 2 rfl rfl
theorem d_X6_same_3 : dn cX6_same 3 (.invokestatic 57) 3 6 := dnAt dc_X6_same 3 rfl rfl
theorem d_X6_same_6 : dn cX6_same 6 (.iload_n 2) 1 7 := dnAt dc_X6_same 4 rfl rfl
theorem d_X6_same_7 : dn cX6_same 7 (.iconst 0) 1 8 := dnAt dc_X6_same 5 rfl rfl
theorem d_X6_same_8 : dn cX6_same 8 (.iconst 2) 1 9 := dnAt dc_X6_same 6 rfl rfl
theorem d_X6_same_9 : dn cX6_same 9 (.invokestatic 57) 3 12 := dnAt dc_X6_same 7 rfl rfl
theorem d_X6_same_12 : dn cX6_same 12 (.aload_n 0) 1 13 := dnAt dc_X6_same 8 rfl rfl
theorem d_X6_same_13 : dn cX6_same 13 (.invokevirtual 106) 3 16 := dnAt dc_X6_same 9 rfl rfl
theorem d_X6_same_16 : dn cX6_same 16 (.aload_n 0) 1 17 := dnAt dc_X6_same 10 rfl rfl
theorem d_X6_same_17 : dn cX6_same 17 (.iconst 1) 1 18 := dnAt dc_X6_same 11 rfl rfl
theorem d_X6_same_18 : dn cX6_same 18 (.iload_n 1) 1 19 := dnAt dc_X6_same 12 rfl rfl
theorem d_X6_same_19 : dn cX6_same 19 (.iconst 3) 1 20 := dnAt dc_X6_same 13 rfl rfl
theorem d_X6_same_20 : dn cX6_same 20 (.imul) 1 21 := dnAt dc_X6_same 14 rfl rfl
theorem d_X6_same_21 : dn cX6_same 21 (.iload_n 2) 1 22 := dnAt dc_X6_same 15 rfl rfl
theorem d_X6_same_22 : dn cX6_same 22 (.iadd) 1 23 := dnAt dc_X6_same 16 rfl rfl
theorem d_X6_same_23 : dn cX6_same 23 (.ishl) 1 24 := dnAt dc_X6_same 17 rfl rfl
theorem d_X6_same_24 : dn cX6_same 24 (.invokestatic 123) 3 27 := dnAt dc_X6_same 18 rfl rfl
theorem d_X6_same_27 : dn cX6_same 27 (.invokestatic 115) 3 30 := dnAt dc_X6_same 19 rfl rfl
theorem d_X6_same_30 : dn cX6_same 30 (.invokevirtual 119) 3 33 := dnAt dc_X6_same 20 rfl rfl
theorem d_X6_same_33 : dn cX6_same 33 (.ireturn) 1 34 := dnAt dc_X6_same 21 rfl rfl
set_option maxHeartbeats 4000000 in
set_option maxRecDepth 100000 in
theorem k_same {l : Launch} {G : eG} {ad : Nat → Nat → Nat} {h : hp} {g : mS} {attr lab : Int32} (hlf : l.stackTraces = false) (hm : co G ad g h) (I : mInv g) (L8 : pil G ad h g) : kX l G ad h yX6_same cX6_same 3 (Option.some Jvm.ClassFile.FieldType.int) { frames := 7, cells := 9, slots := 51, locals := 112 } [.ref (ad 0 0), .int attr, .int lab] (fun v9 g9 h9 => v9 = some (.int (nI (rPut g (cSame g attr lab)))) ∧ cSame g attr lab = 0 ∧ ∃ a t, g9 = psh g a ∧ prA G ad h9 a (1, 1, 1, rsF (1 * 2 ^ (tn attr * 3 + tn lab)) 9, false, (fun _ => 0), fun _ => t) true ∧ tst G ad h9 t (allP) (1 * 2 ^ (tn attr * 3 + tn lab)) 0 ∧ h t = none) (fun E9 g9 => (E9 = "java/lang/IllegalArgumentException" ∧ cSame g attr lab = 1 ∨ E9 = "java/lang/IllegalStateException" ∧ cSame g attr lab = 2) ∧ g9 = g) := by
  refine kX.of hlf hm (by decide) (Nat.le_of_ble_eq_true rfl) ?_
  intro x C A TY X
  show VC G x ad h g 0 0 0 [(0, .ref (ad 0 0)), (1, .int attr), (2, .int lab)] []
  refine c_iload_n C d_X6_same_0 1 rfl ?_
  refine c_iconst C d_X6_same_1 (v := (nI 0)) rfl ?_
  refine c_iconst C d_X6_same_2 (v := (nI 2)) rfl ?_
  refine k_callSX C X cfr_rf d_X6_same_3 ok_RX6_57 (fun l h hl hm hf => k_demandRange hl hm attr ((nI 0)) ((nI 2))) (rest := []) rfl rfl (Nat.le_of_ble_eq_true rfl) ⟨⟨by decide, by decide⟩, Nat.le_of_ble_eq_true rfl, Nat.le_of_ble_eq_true rfl⟩ (fun _ _ e => ⟨Or.inl ⟨e.1, cSame_1 (Or.inl e.2.1)⟩, e.2.2⟩) (fun v9 g9 hq1 e9 F1 => ?_)
  obtain ⟨rfl, z1, i1⟩ := e9
  refine c_eq z1 ?_
  refine c_base F1 ?_
  show VC G x ad h g 1 6 6 [(0, .ref (ad 0 0)), (1, .int attr), (2, .int lab)] []
  refine c_iload_n C d_X6_same_6 2 rfl ?_
  refine c_iconst C d_X6_same_7 (v := (nI 0)) rfl ?_
  refine c_iconst C d_X6_same_8 (v := (nI 2)) rfl ?_
  refine k_callSX C X cfr_rf d_X6_same_9 ok_RX6_57 (fun l h hl hm hf => k_demandRange hl hm lab ((nI 0)) ((nI 2))) (rest := []) rfl rfl (Nat.le_of_ble_eq_true rfl) ⟨⟨by decide, by decide⟩, Nat.le_of_ble_eq_true rfl, Nat.le_of_ble_eq_true rfl⟩ (fun _ _ e => ⟨Or.inl ⟨e.1, cSame_1 (Or.inr e.2.1)⟩, e.2.2⟩) (fun v9 g9 hq2 e9 F2 => ?_)
  obtain ⟨rfl, z2, i2⟩ := e9
  refine c_eq z2 ?_
  refine c_base F2 ?_
  show VC G x ad h g 2 12 12 [(0, .ref (ad 0 0)), (1, .int attr), (2, .int lab)] []
  replace i1 : inR attr 0 2 = true := i1
  replace i2 : inR lab 0 2 = true := i2
  obtain ⟨j1, -, s1⟩ := inR_of i1 (by decide) (by decide)
  obtain ⟨j2, -, s2⟩ := inR_of i2 (by decide) (by decide)
  refine c_lve (lv' := [(0, .ref (ad 0 0)), (1, .int (nI (tn attr))), (2, .int (nI (tn lab)))]) (by rw [← j1, ← j2]) ?_
  refine c_aload_n C d_X6_same_12 0 rfl ?_
  refine k_callVX C X cfr_rf d_X6_same_13 ok_RX6_106 (k := 0) (i' := 0) (fun l h hl hm hf => k_demandRoom (N := fun i => mN g 8 (12 + i)) hl hm L8.1 (fun i hi => ⟨(L8.2 i hi).1.1, (L8.2 i hi).1.2.1, (L8.2 i hi).1.2.2.mv hf⟩)) rfl rfl rfl rfl (rest := []) rfl rfl (Nat.le_of_ble_eq_true rfl) ⟨⟨by decide, by decide⟩, Nat.le_of_ble_eq_true rfl, Nat.le_of_ble_eq_true rfl⟩ (fun _ _ e => ⟨Or.inr (⟨e.1, cSame_2 i1 i2 (Nat.le_antisymm (mTests_le I) e.2.1)⟩), e.2.2⟩) (fun v9 g9 hq3 e9 F3 => ?_)
  obtain ⟨rfl, z3, i3⟩ := e9
  refine c_eq z3 ?_
  have k7 := pile_7 (fun i hi => (L8.2 i hi).2) i3
  refine c_base F3 ?_
  show VC G x ad h g 3 18 16 [(0, .ref (ad 0 0)), (1, .int (nI (tn attr))), (2, .int (nI (tn lab)))] []
  refine c_aload_n C d_X6_same_16 0 rfl ?_
  refine c_iconst C d_X6_same_17 (v := (nI 1)) rfl ?_
  refine c_iload_n C d_X6_same_18 1 rfl ?_
  refine c_iconst C d_X6_same_19 (v := (nI 3)) rfl ?_
  refine cn_imul C d_X6_same_20 ?_
  refine c_iload_n C d_X6_same_21 2 rfl ?_
  refine cn_iadd C d_X6_same_22 ?_
  refine cn_ishl C d_X6_same_23 (by omega) ?_
  refine k_callL C d_X6_same_24 ok_RX6_123 (fun l h hm hf => l_ofSames) (rest := [.ref (ad 0 0)]) rfl rfl (Nat.le_of_ble_eq_true rfl) ⟨⟨by decide, by decide⟩, Nat.le_of_ble_eq_true rfl, Nat.le_of_ble_eq_true rfl⟩ (fun v9 hp4 hq4 L4 M4 e9 F4 l4 w4 c4 => ?_)
  obtain ⟨t4, p4, rfl, rfl⟩ := e9
  show VC G x ad hq4 g 5 27 27 [(0, .ref (ad 0 0)), (1, .int (nI (tn attr))), (2, .int (nI (tn lab)))] [.ref t4, .ref (ad 0 0)]
  have T4 := tcl_t M4 w4 c4
  refine k_callL C d_X6_same_27 ok_RX6_115 (fun l h hm hf => l_ofTestT (T4.mv hf) (two9 (by omega) (by omega))) (rest := [.ref (ad 0 0)]) rfl rfl (Nat.le_of_ble_eq_true rfl) ⟨⟨by decide, by decide⟩, Nat.le_of_ble_eq_true rfl, Nat.le_of_ble_eq_true rfl⟩ (fun v9 hp5 hq5 L5 M5 e9 F5 l5 w5 c5 => ?_)
  obtain ⟨a5, pt5, pn5, rfl, rfl⟩ := e9
  show VC G x ad hq5 g 8 50 30 [(0, .ref (ad 0 0)), (1, .int (nI (tn attr))), (2, .int (nI (tn lab)))] [.ref a5, .ref (ad 0 0)]
  have Q5 := pcl_p M5 w5 c5
  have T5 := T4.mv (cfr.le F5 l5)
  obtain ⟨na5, pt5, pn5, y15, y25, y35, y45, y55⟩ := id Q5
  refine k_callV C d_X6_same_30 ok_RX6_119 (k := 0) (i' := 0) (fun l h hm hf => k_push hm (k7) (na5) (hf _ _ na5.w y35)) rfl rfl rfl rfl (rest := []) rfl rfl (Nat.le_of_ble_eq_true rfl) ⟨⟨by decide, by decide⟩, Nat.le_of_ble_eq_true rfl, Nat.le_of_ble_eq_true rfl⟩ (fun v9 g9 hq6 e9 F6 => ?_)
  obtain ⟨rfl, z6⟩ := e9
  refine c_eq z6 ?_
  refine c_base F6 ?_
  show VC G x ad hq5 (uK (uN g 60 (mK g 16) (a5 + 1)) 16 (mK g 16 + 1)) 8 50 33 [(0, .ref (ad 0 0)), (1, .int (nI (tn attr))), (2, .int (nI (tn lab)))] [.int (nI (mK g 16 + 1))]
  have c0 := cSame_T i1 i2 (show mTests g ≠ 8 from fun z => by have z2 : sumTo (fun i => mN g 8 (12 + i)) (mK g 16) = 8 := z; omega)
  refine c_st (st' := [.int (nI (rPut g (cSame g attr lab)))]) (by rw [rPut, if_pos c0]) ?_
  exact k_iret C A (cfr_tr (cfr_tr cfr_rf (cfr.le F4 l4)) (cfr.le F5 l5)) TY d_X6_same_33 rfl (Nat.le_of_ble_eq_true rfl) (Nat.le_of_ble_eq_true rfl) (fun h9 F9 => ⟨rfl, c0, a5, t4, rfl, Q5.mv F9, T5.mv F9, new_none F4 T4.1.w (w4.1 1 _ rfl)⟩)
