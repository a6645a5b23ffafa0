theorem tw_452 : (Jvm.Cond.methodLink "Corpusline$Part" (46 : Nat) ({ cls := "Corpusline$Part", name := "ofTimes", desc := "(LCorpusline$Part;Z)LCorpusline$Part;" } : Jvm.MethodName)) ∈ TB := tb_of 452 (by decide +kernel) rfl
theorem tw_453 : (Jvm.Cond.static ({ cls := "Corpusline$Part", name := "ofTimes", desc := "(LCorpusline$Part;Z)LCorpusline$Part;" } : Jvm.MethodName)) ∈ TB := tb_of 453 (by decide +kernel) rfl
theorem tw_454 : (Jvm.Cond.code ({ cls := "Corpusline$Part", name := "ofTimes", desc := "(LCorpusline$Part;Z)LCorpusline$Part;" } : Jvm.MethodName) prog_2_method_6_code (3 : Nat) (Option.some (Jvm.ClassFile.FieldType.object "Corpusline$Part"))) ∈ TB := tb_of 454 (by decide +kernel) rfl
theorem tw_459 : (Jvm.Cond.methodLink "Corpusline$Part" (50 : Nat) ({ cls := "Corpusline$Part", name := "ofChain", desc := "(LCorpusline$Part;LCorpusline$Part;)LCorpusline$Part;" } : Jvm.MethodName)) ∈ TB := tb_of 459 (by decide +kernel) rfl
theorem tw_460 : (Jvm.Cond.static ({ cls := "Corpusline$Part", name := "ofChain", desc := "(LCorpusline$Part;LCorpusline$Part;)LCorpusline$Part;" } : Jvm.MethodName)) ∈ TB := tb_of 460 (by decide +kernel) rfl
theorem tw_461 : (Jvm.Cond.code ({ cls := "Corpusline$Part", name := "ofChain", desc := "(LCorpusline$Part;LCorpusline$Part;)LCorpusline$Part;" } : Jvm.MethodName) prog_2_method_3_code (5 : Nat) (Option.some (Jvm.ClassFile.FieldType.object "Corpusline$Part"))) ∈ TB := tb_of 461 (by decide +kernel) rfl
theorem ok_RX0_46 : okS RX0 46 yX0_ofTimes cX0_ofTimes 3 (Option.some (Jvm.ClassFile.FieldType.object "Corpusline$Part")) 2 := ⟨tw_452, tw_453, tw_13, tw_454, ⟨by decide, by decide, by decide +kernel⟩⟩
theorem ok_RX0_50 : okS RX0 50 yX0_ofChain cX0_ofChain 5 (Option.some (Jvm.ClassFile.FieldType.object "Corpusline$Part")) 2 := ⟨tw_459, tw_460, tw_13, tw_461, ⟨by decide, by decide, by decide +kernel⟩⟩
theorem w_callSR {G : eG} {x : CX} {h0 : hp} {n1 n2 : Nat} {pc nx : Nat} {lv : List (Nat × Value)} {st rest : List Value} {own : String} {cc b : ByteArray} {rm R0 : Room} {nL maxL i n : Nat} {y : MethodName} {ret : Option FieldType} {As : List Value} {post : Option Value → cL → Prop} (C : cxOk G own cc R0 nL x) (d : dn cc pc (.invokestatic i) 3 nx) (F : okS own i y b maxL ret n) (K : ∀ l h1, hle h0 h1 → kL l G h1 [] y b maxL ret rm As post) (hn : As.length = n) (hst : st = As.reverse ++ rest) (hcat : (rest.map fun v => v.category).sum ≤ 8) (hR : rmIn rm R0 maxL n1 n2)
    (kk : ∀ v h' L', hle h0 h' → post v L' → nwl h0 L' → cel L' h' → VL G x h' [] (n1 + rm.cells) (n2 + rm.slots) nx lv (v.toList ++ rest)) : VL G x h0 [] n1 n2 pc lv st := fun h hm hw hc =>
  r_callS C d F (fun l _ => K l h hm h hle_rf nwl_nil cel_nil) hn hst hcat hR (fun v h' ⟨L', e, q9, r9, s9⟩ => kk v h' L' (hle_tr hm q9) e ⟨fun i q hi => (by
    cases z : h0 q.1 with
    | none => rfl
    | some y => have := hm _ _ z; rw [r9.1 i q hi] at this; cases this), r9.2⟩ s9 h' hle_rf nwl_nil cel_nil)
/-- a part in numbers: tests, firsts, lasts, what is read, none too, nexts, which tests -/
abbrev pA : Type := Nat × Nat × Nat × Nat × Bool × (Nat → Nat) × (Nat → Nat)
def chA (x y : pA) : pA := (x.1 + y.1, x.2.1 ||| (if x.2.2.2.2.1 = true then y.2.1 * 2 ^ x.1 else 0), y.2.2.1 * 2 ^ x.1 ||| (if y.2.2.2.2.1 = true then x.2.2.1 else 0), x.2.2.2.1 ||| y.2.2.2.1, (x.2.2.2.2.1 && y.2.2.2.2.1), chX x.1 y.1 x.2.2.2.2.2.1 y.2.2.2.2.2.1 x.2.2.1 y.2.1 x.1, tsT x.1 x.2.2.2.2.2.2 y.2.2.2.2.2.2)
def eiA (x y : pA) : pA := (x.1 + y.1, x.2.1 ||| y.2.1 * 2 ^ x.1, x.2.2.1 ||| y.2.2.1 * 2 ^ x.1, x.2.2.2.1 ||| y.2.2.2.1, (x.2.2.2.2.1 || y.2.2.2.2.1), tsN x.1 y.1 x.2.2.2.2.2.1 y.2.2.2.2.2.1, tsT x.1 x.2.2.2.2.2.2 y.2.2.2.2.2.2)
def tmA (x : pA) (c : Bool) : pA := (x.1, x.2.1, x.2.2.1, x.2.2.2.1, (x.2.2.2.2.1 || c), cutN x.1 x.2.2.2.2.2.1, x.2.2.2.2.2.2)
def rpA (x : pA) (l : Nat) : Nat → pA
  | 0 => tmA x (decide (l = 0))
  | k + 1 => chA (rpA x l k) (tmA x (decide (l ≤ k + 1)))
theorem rpA_n (x : pA) (l : Nat) : ∀ k, (rpA x l k).1 = x.1 * (k + 1)
  | 0 => by show x.1 = _; omega
  | k + 1 => by show (rpA x l k).1 + x.1 = _; rw [rpA_n x l k, Nat.mul_succ x.1 (k + 1)]
/-- a part's cells in a heap -/
def pco (G : eG) (h : hp) (a : Nat) (x : pA) (is : Bool) : Prop := ∃ pt pn, h a = some (oC 0 [.ref pt, .ref pn, .int (nI x.2.1), .int (nI x.2.2.1), .int (bI x.2.2.2.2.1), .int (bI is), .int (nI x.2.2.2.1)]) ∧ h pt = some (aR G 6 x.1 (fun j => if j < x.1 then some (x.2.2.2.2.2.2 j) else none)) ∧ h pn = some (aI G x.1 (fun j => nI (x.2.2.2.2.2.1 j))) ∧ ∀ j, j < x.1 → ∃ fs, h (x.2.2.2.2.2.2 j) = some (oC 3 fs)
/-- the same of a new part, on a heap that stood -/
def pnw (G : eG) (h0 h : hp) (a : Nat) (x : pA) (is : Bool) : Prop := ∃ pt pn, h0 a = none ∧ h0 pt = none ∧ h0 pn = none ∧ h a = some (oC 0 [.ref pt, .ref pn, .int (nI x.2.1), .int (nI x.2.2.1), .int (bI x.2.2.2.2.1), .int (bI is), .int (nI x.2.2.2.1)]) ∧ h pt = some (aR G 6 x.1 (fun j => if j < x.1 then some (x.2.2.2.2.2.2 j) else none)) ∧ h pn = some (aI G x.1 (fun j => nI (x.2.2.2.2.2.1 j)))
theorem pco.le {G : eG} {h h' : hp} {a : Nat} {x : pA} {is : Bool} (p : pco G h a x is) (l : hle h h') : pco G h' a x is := by
  obtain ⟨pt, pn, p1, p2, p3, p4⟩ := p
  exact ⟨pt, pn, l _ _ p1, l _ _ p2, l _ _ p3, fun j hj => (fun ⟨fs, q⟩ => ⟨fs, l _ _ q⟩) (p4 j hj)⟩
theorem hle_no {h0 h : hp} (l : hle h0 h) {a : Nat} (n : h a = none) : h0 a = none := by
  cases z : h0 a with
  | none => rfl
  | some y => rw [l _ _ z] at n; cases n
theorem pnw.le {G : eG} {h0 h h' : hp} {a : Nat} {x : pA} {is : Bool} (p : pnw G h0 h a x is) (l : hle h h') : pnw G h0 h' a x is := by
  obtain ⟨pt, pn, p1, p2, p3, p4, p5, p6⟩ := p
  exact ⟨pt, pn, p1, p2, p3, l _ _ p4, l _ _ p5, l _ _ p6⟩
theorem pnw.ge {G : eG} {h0 h1 h : hp} {a : Nat} {x : pA} {is : Bool} (p : pnw G h1 h a x is) (l : hle h0 h1) : pnw G h0 h a x is := by
  obtain ⟨pt, pn, p1, p2, p3, p4⟩ := p
  exact ⟨pt, pn, hle_no l p1, hle_no l p2, hle_no l p3, p4⟩
theorem pcl_nw {G : eG} {h0 h : hp} {a pt pn n fi la rs : Nat} {no is : Bool} {nx tt : Nat → Nat} (w : nwl h0 (pcl G a pt pn n fi la rs no is nx tt)) (c : cel (pcl G a pt pn n fi la rs no is nx tt) h) : pnw G h0 h a (n, fi, la, rs, no, nx, tt) is := ⟨pt, pn, w.1 2 _ rfl, w.1 1 _ rfl, w.1 0 _ rfl, c 2 _ rfl, c 1 _ rfl, c 0 _ rfl⟩
theorem pnw.co {G : eG} {h0 h : hp} {a : Nat} {x : pA} {is : Bool} (p : pnw G h0 h a x is) (t : ∀ j, j < x.1 → ∃ fs, h (x.2.2.2.2.2.2 j) = some (oC 3 fs)) : pco G h a x is := by
  obtain ⟨pt, pn, p1, p2, p3, p4, p5, p6⟩ := p
  exact ⟨pt, pn, p4, p5, p6, t⟩
theorem tsT_ok {h : hp} {m1 m2 : Nat} {t1 t2 : Nat → Nat} (a : ∀ j, j < m1 → ∃ fs, h (t1 j) = some (oC 3 fs)) (b : ∀ j, j < m2 → ∃ fs, h (t2 j) = some (oC 3 fs)) : ∀ j, j < m1 + m2 → ∃ fs, h (tsT m1 t1 t2 j) = some (oC 3 fs) := fun j hj => by
  unfold tsT
  split
  · exact a j (by assumption)
  · exact b _ (by omega)
theorem rp_ok {h : hp} {x : pA} {l : Nat} (a : ∀ j, j < x.1 → ∃ fs, h (x.2.2.2.2.2.2 j) = some (oC 3 fs)) : ∀ k, ∀ j, j < (rpA x l k).1 → ∃ fs, h ((rpA x l k).2.2.2.2.2.2 j) = some (oC 3 fs)
  | 0 => a
  | k + 1 => tsT_ok (rp_ok a k) a
/-- the contract of ofTimes, of ofChain, on parts in numbers -/
theorem l_times {l : Launch} {G : eG} {h0 : hp} {a : Nat} {x : pA} {is c : Bool} (p : pco G h0 a x is) (h : x.1 ≤ 8) : kL l G h0 [] yX0_ofTimes cX0_ofTimes 3 (Option.some (Jvm.ClassFile.FieldType.object "Corpusline$Part")) { frames := 2, cells := 3, slots := 23, locals := 41 } [.ref a, .int (bI c)] (fun v9 L9 => ∃ a pt pn, v9 = some (.ref a) ∧ L9 = pcl G a pt pn (tmA x c).1 (tmA x c).2.1 (tmA x c).2.2.1 (tmA x c).2.2.2.1 (tmA x c).2.2.2.2.1 false (tmA x c).2.2.2.2.2.1 (tmA x c).2.2.2.2.2.2) := by
  obtain ⟨pt, pn, p1, p2, p3, p4⟩ := p
  exact l_ofTimes p1 p2 p3 p4 h
theorem l_chain {l : Launch} {G : eG} {h0 : hp} {a b : Nat} {x y : pA} {is js : Bool} (p : pco G h0 a x is) (q : pco G h0 b y js) (h : x.1 + y.1 ≤ 8) (hl : x.2.2.1 < 256) : kL l G h0 [] yX0_ofChain cX0_ofChain 5 (Option.some (Jvm.ClassFile.FieldType.object "Corpusline$Part")) { frames := 3, cells := 3, slots := 23, locals := 63 } [.ref a, .ref b] (fun v9 L9 => ∃ a pt pn, v9 = some (.ref a) ∧ L9 = pcl G a pt pn (chA x y).1 (chA x y).2.1 (chA x y).2.2.1 (chA x y).2.2.2.1 (chA x y).2.2.2.2.1 false (chA x y).2.2.2.2.2.1 (chA x y).2.2.2.2.2.2) := by
  obtain ⟨pt, pn, p1, p2, p3, p4⟩ := p
  obtain ⟨qt, qn, q1, q2, q3, q4⟩ := q
  exact l_ofChain p1 p2 p3 p4 q1 q2 q3 q4 h hl
theorem l_either {l : Launch} {G : eG} {h0 : hp} {a b : Nat} {x y : pA} {is js : Bool} (p : pco G h0 a x is) (q : pco G h0 b y js) (h : x.1 + y.1 ≤ 8) : kL l G h0 [] yX0_ofEither cX0_ofEither 4 (Option.some (Jvm.ClassFile.FieldType.object "Corpusline$Part")) { frames := 3, cells := 3, slots := 23, locals := 63 } [.ref a, .ref b] (fun v9 L9 => ∃ a pt pn, v9 = some (.ref a) ∧ L9 = pcl G a pt pn (eiA x y).1 (eiA x y).2.1 (eiA x y).2.2.1 (eiA x y).2.2.2.1 (eiA x y).2.2.2.2.1 false (eiA x y).2.2.2.2.2.1 (eiA x y).2.2.2.2.2.2) := by
  obtain ⟨pt, pn, p1, p2, p3, p4⟩ := p
  obtain ⟨qt, qn, q1, q2, q3, q4⟩ := q
  exact l_ofEither p1 p2 p3 p4 q1 q2 q3 q4 h
def dl_X0_ofRepeat : List (Nat × Instr × Nat) := [(0, .aload_n 0, 1), (1, .iload_n 1, 1), (2, .ifCond .ne 7, 3), (5, .iconst 1, 1), (6, .goto 4, 3), (9, .iconst 0, 1), (10, .invokestatic 46, 3), (13, .astore_n 3, 1), (14, .iconst 1, 1), (15, .istore 4, 2), (17, .iload 4, 2), (19, .iload_n 2, 1), (20, .if_icmp .ge 29, 3), (23, .aload_n 3, 1), (24, .aload_n 0, 1), (25, .iload 4, 2), (27, .iload_n 1, 1), (28, .if_icmp .lt 7, 3), (31, .iconst 1, 1), (32, .goto 4, 3), (35, .iconst 0, 1), (36, .invokestatic 46, 3), (39, .invokestatic 50, 3), (42, .astore_n 3, 1), (43, .iinc 4 1, 3), (46, .goto (-29), 3), (49, .aload_n 3, 1), (50, .areturn, 1)]
theorem dc_X0_ofRepeat : dnL cX0_ofRepeat dl_X0_ofRepeat = true := by decide +kernel
theorem d_X0_ofRepeat_0 : dn cX0_ofRepeat 0 (.aload_n 0) 1 1 := dnAt dc_X0_ofRepeat 0 rfl rfl
theorem d_X0_ofRepeat_1 : dn cX0_ofRepeat 1 (.iload_n 1) 1 2 := dnAt dc_X0_ofRepeat 1 rfl rfl
theorem d_X0_ofRepeat_2 : dn cX0_ofRepeat 2 (.ifCond .ne 7) 3 5 := dnAt dc_X0_ofRepeat 2 rfl rfl
theorem d_X0_ofRepeat_5 : dn cX0_ofRepeat 5 (.iconst 1) 1 6 := dnAt dc_X0_ofRepeat 3 rfl rfl
theorem d_X0_ofRepeat_6 : dn cX0_ofRepeat 6 (.goto 4) 3 9 := dnAt dc_X0_ofRepeat 4 rfl rfl
theorem d_X0_ofRepeat_9 : dn cX0_ofRepeat 9 (.iconst 0) 1 10 := dnAt dc_X0_ofRepeat 5 rfl rfl
theorem d_X0_ofRepeat_10 : dn cX0_ofRepeat 10 (.invokestatic 46) 3 13 := dnAt dc_X0_ofRepeat 6 rfl rfl
theorem d_X0_ofRepeat_13 : dn cX0_ofRepeat 13 (.astore_n 3) 1 14 := dnAt dc_X0_ofRepeat 7 rfl rfl
theorem d_X0_ofRepeat_14 : dn cX0_ofRepeat 14 (.iconst 1) 1 15 := dnAt dc_X0_ofRepeat 8 rfl rfl
theorem d_X0_ofRepeat_15 : dn cX0_ofRepeat 15 (.istore 4) 2 17 := dnAt dc_X0_ofRepeat 9 rfl rfl
theorem d_X0_ofRepeat_17 : dn cX0_ofRepeat 17 (.iload 4) 2 19 := dnAt dc_X0_ofRepeat 10 rfl rfl
theorem d_X0_ofRepeat_19 : dn cX0_ofRepeat 19 (.iload_n 2) 1 20 := dnAt dc_X0_ofRepeat 11 rfl rfl
theorem d_X0_ofRepeat_20 : dn cX0_ofRepeat 20 (.if_icmp .ge 29) 3 23 := dnAt dc_X0_ofRepeat 12 rfl rfl
theorem d_X0_ofRepeat_23 : dn cX0_ofRepeat 23 (.aload_n 3) 1 24 := dnAt dc_X0_ofRepeat 13 rfl rfl
theorem d_X0_ofRepeat_24 : dn cX0_ofRepeat 24 (.aload_n 0) 1 25 := dnAt dc_X0_ofRepeat 14 rfl rfl
theorem d_X0_ofRepeat_25 : dn cX0_ofRepeat 25 (.iload 4) 2 27 := dnAt dc_X0_ofRepeat 15 rfl rfl
theorem d_X0_ofRepeat_27 : dn cX0_ofRepeat 27 (.iload_n 1) 1 28 := dnAt dc_X0_ofRepeat 16 rfl rfl
theorem d_X0_ofRepeat_28 : dn cX0_ofRepeat 28 (.if_icmp .lt 7) 3 31 := dnAt dc_X0_ofRepeat 17 rfl rfl
theorem d_X0_ofRepeat_31 : dn cX0_ofRepeat 31 (.iconst 1) 1 32 := dnAt dc_X0_ofRepeat 18 rfl rfl
theorem d_X0_ofRepeat_32 : dn cX0_ofRepeat 32 (.goto 4) 3 35 := dnAt dc_X0_ofRepeat 19 rfl rfl
theorem d_X0_ofRepeat_35 : dn cX0_ofRepeat 35 (.iconst 0) 1 36 := dnAt dc_X0_ofRepeat 20 rfl rfl
theorem d_X0_ofRepeat_36 : dn cX0_ofRepeat 36 (.invokestatic 46) 3 39 := dnAt dc_X0_ofRepeat 21 rfl rfl
theorem d_X0_ofRepeat_39 : dn cX0_ofRepeat 39 (.invokestatic 50) 3 42 := dnAt dc_X0_ofRepeat 22 rfl rfl
theorem d_X0_ofRepeat_42 : dn cX0_ofRepeat 42 (.astore_n 3) 1 43 := dnAt dc_X0_ofRepeat 23 rfl rfl
theorem d_X0_ofRepeat_43 : dn cX0_ofRepeat 43 (.iinc 4 1) 3 46 := dnAt dc_X0_ofRepeat 24 rfl rfl
theorem d_X0_ofRepeat_46 : dn cX0_ofRepeat 46 (.goto (-29)) 3 49 := dnAt dc_X0_ofRepeat 25 rfl rfl
theorem d_X0_ofRepeat_49 : dn cX0_ofRepeat 49 (.aload_n 3) 1 50 := dnAt dc_X0_ofRepeat 26 rfl rfl
theorem d_X0_ofRepeat_50 : dn cX0_ofRepeat 50 (.areturn) 1 51 := dnAt dc_X0_ofRepeat 27 rfl rfl
set_option maxHeartbeats 4000000 in
set_option maxRecDepth 100000 in
theorem k_ofRepeat {l : Launch} {G : eG} {h0 : hp} {o le mo : Nat} {y : pA} {is : Bool} (P : pco G h0 o y is) (h1 : 1 ≤ mo) (h3 : mo ≤ 3) (h8 : y.1 * mo ≤ 8) (hle3 : le ≤ 3) (hn0 : 0 < y.1) (hla : ∀ k, k + 1 < mo → (rpA y le k).2.2.1 < 256) : MC l G yX0_ofRepeat cX0_ofRepeat 5 (Option.some (Jvm.ClassFile.FieldType.object "Corpusline$Part")) { frames := 4, cells := 15, slots := 115, locals := 87 } [.ref o, .int (nI le), .int (nI mo)] h0 (fun v h' => ∃ a, v = some (.ref a) ∧ hle h0 h' ∧ pnw G h0 h' a (rpA y le (mo - 1)) false) := by
  refine MC.of (by decide) (Nat.le_of_ble_eq_true rfl) ?_
  intro x C A TY CI
  have hT : ∀ j, j < y.1 → ∃ fs, h0 (y.2.2.2.2.2.2 j) = some (oC 3 fs) := by obtain ⟨pt, pn, p1, p2, p3, p4⟩ := P; exact p4
  have hy8 : y.1 ≤ 8 := Nat.le_trans (Nat.le_mul_of_pos_right _ (by omega)) h8
  refine (?_ : VL G x h0 [] 0 0 0 [(0, .ref o), (1, .int (nI le)), (2, .int (nI mo))] []) h0 hle_rf nwl_nil cel_nil
  refine w_aload_n C d_X0_ofRepeat_0 0 rfl ?_
  refine w_iload_n C d_X0_ofRepeat_1 1 rfl ?_
  have join_10 : VL G x h0 [] 0 0 10 [(0, .ref o), (1, .int (nI le)), (2, .int (nI mo))] [.int (bI (decide (le = 0))), .ref o] := by
    refine w_callSR C d_X0_ofRepeat_10 ok_RX0_46 (fun l h9 m9 => l_times (is := is) (c := decide (le = 0)) (P.le m9) (by omega)) (rest := []) rfl rfl (Nat.le_of_ble_eq_true rfl) ⟨⟨by decide, by decide⟩, by show _ + 3 ≤ 15; omega, by show _ + 23 ≤ 115; omega⟩ (fun v9 hq1 L9 m1 e9 w1 c1 => ?_)
    obtain ⟨a1, pt1, pn1, rfl, rfl⟩ := e9
    show VL G x hq1 [] 3 23 13 [(0, .ref o), (1, .int (nI le)), (2, .int (nI mo))] [.ref a1]
    refine w_astore_n C d_X0_ofRepeat_13 (lv' := [(3, .ref a1), (0, .ref o), (1, .int (nI le)), (2, .int (nI mo))]) (by decide) rfl ?_
    refine w_iconst C d_X0_ofRepeat_14 (v := (nI 1)) rfl ?_
    refine w_istore C d_X0_ofRepeat_15 (lv' := [(4, .int (nI 1)), (3, .ref a1), (0, .ref o), (1, .int (nI le)), (2, .int (nI mo))]) (by decide) rfl ?_
    have loop_17 : ∀ (fuel : Nat) (k : Nat) (ap : Nat) (hq : hp), (k < mo) → (hle h0 hq) → (pnw G h0 hq ap (rpA y le k) false) → (4 - k) < fuel → VL G x hq [] (3 + 6 * k) (23 + 46 * k) 17 [(4, .int (nI (k + 1))), (3, .ref ap), (0, .ref o), (1, .int (nI le)), (2, .int (nI mo))] [] := by
      intro fuel
      induction fuel with
      | zero => intro k ap hq hk hm hp hf9; exact absurd hf9 (Nat.not_lt_zero _)
      | succ fuel ih_17 =>
        intro k ap hq hk hm hp hf9
        refine w_iload C d_X0_ofRepeat_17 0 rfl ?_
        refine w_iload_n C d_X0_ofRepeat_19 4 rfl ?_
        refine wn_icmp_ge C d_X0_ofRepeat_20 (tgt := 49) rfl (by omega) (by omega) (fun c_20 => ?_) (fun c_20 => ?_)
        · skip
          have e9 : k + 1 = mo := by omega
          refine w_aload_n C d_X0_ofRepeat_49 1 rfl ?_
          exact fun h8 hm8 hw8 hc8 => r_aret C A TY d_X0_ofRepeat_50 (by show _ ≤ 15; omega) (by show _ ≤ 115; omega) ⟨ap, rfl, hle_tr hm hm8, by rw [show mo - 1 = k by omega]; exact hp.le hm8⟩
        · skip
          refine w_aload_n C d_X0_ofRepeat_23 1 rfl ?_
          refine w_aload_n C d_X0_ofRepeat_24 2 rfl ?_
          refine w_iload C d_X0_ofRepeat_25 0 rfl ?_
          refine w_iload_n C d_X0_ofRepeat_27 3 rfl ?_
          have join_36 : VL G x hq [] (3 + 6 * k) (23 + 46 * k) 36 [(4, .int (nI (k + 1))), (3, .ref ap), (0, .ref o), (1, .int (nI le)), (2, .int (nI mo))] [.int (bI (decide (le ≤ k + 1))), .ref o, .ref ap] := by
            refine w_callSR C d_X0_ofRepeat_36 ok_RX0_46 (fun l h9 m9 => l_times (is := is) (c := decide (le ≤ k + 1)) (P.le (hle_tr hm m9)) (by omega)) (rest := [.ref ap]) rfl rfl (Nat.le_of_ble_eq_true rfl) ⟨⟨by decide, by decide⟩, by show _ + 3 ≤ 15; omega, by show _ + 23 ≤ 115; omega⟩ (fun v9 hq2 L9 m2 e9 w2 c2 => ?_)
            obtain ⟨a2, pt2, pn2, rfl, rfl⟩ := e9
            show VL G x hq2 [] ((3 + 6 * k) + 3) ((23 + 46 * k) + 23) 39 [(4, .int (nI (k + 1))), (3, .ref ap), (0, .ref o), (1, .int (nI le)), (2, .int (nI mo))] [.ref a2, .ref ap]
            have t9 := rp_ok (l := le) hT k
            have p9 := (pnw.le hp m2).co (fun j hj => (fun ⟨fs, q⟩ => ⟨fs, hle_tr hm m2 _ _ q⟩) (t9 j hj))
            have q9 := (pcl_nw w2 c2).co (fun j hj => (fun ⟨fs, q⟩ => ⟨fs, hle_tr hm m2 _ _ q⟩) (hT j hj))
            have n9 := rpA_n y le k
            have u9 : y.1 * (k + 2) ≤ 8 := Nat.le_trans (Nat.mul_le_mul_left _ (by omega)) h8
            refine w_callSR C d_X0_ofRepeat_39 ok_RX0_50 (fun l h9 m9 => l_chain (p9.le m9) (q9.le m9) (by show (rpA y le k).1 + y.1 ≤ 8; rw [n9, ← Nat.mul_succ]; exact u9) (hla k (by omega))) (rest := []) rfl rfl (Nat.le_of_ble_eq_true rfl) ⟨⟨by decide, by decide⟩, by show _ + 3 ≤ 15; omega, by show _ + 23 ≤ 115; omega⟩ (fun v9 hq3 L9 m3 e9 w3 c3 => ?_)
            obtain ⟨a3, pt3, pn3, rfl, rfl⟩ := e9
            show VL G x hq3 [] (((3 + 6 * k) + 3) + 3) (((23 + 46 * k) + 23) + 23) 42 [(4, .int (nI (k + 1))), (3, .ref ap), (0, .ref o), (1, .int (nI le)), (2, .int (nI mo))] [.ref a3]
            refine w_astore_n C d_X0_ofRepeat_42 (lv' := [(3, .ref a3), (4, .int (nI (k + 1))), (0, .ref o), (1, .int (nI le)), (2, .int (nI mo))]) (by decide) rfl ?_
            refine wn_iinc C d_X0_ofRepeat_43 (lv' := [(4, .int (nI (k + 1 + 1))), (3, .ref a3), (0, .ref o), (1, .int (nI le)), (2, .int (nI mo))]) 1 rfl (nI_inc _ rfl) (by decide) rfl ?_
            refine w_goto C d_X0_ofRepeat_46 (tgt := 17) rfl ?_
            exact ih_17 (k + 1) a3 hq3 (by omega) (hle_tr hm (hle_tr m2 m3)) ((pcl_nw w3 c3).ge (hle_tr hm m2)) (by omega)
          refine wn_icmp_lt C d_X0_ofRepeat_28 (tgt := 35) rfl (by omega) (by omega) (fun c_28 => ?_) (fun c_28 => ?_)
          · skip
            refine w_iconst C d_X0_ofRepeat_35 (v := (bI false)) rfl ?_
            refine w_st (st' := [.int (bI (decide (le ≤ k + 1))), .ref o, .ref ap]) (by rw [decide_eq_false (by omega)]) ?_
            exact join_36  
          · skip
            refine w_iconst C d_X0_ofRepeat_31 (v := (bI true)) rfl ?_
            refine w_goto C d_X0_ofRepeat_32 (tgt := 36) rfl ?_
            refine w_st (st' := [.int (bI (decide (le ≤ k + 1))), .ref o, .ref ap]) (by rw [decide_eq_true (by omega)]) ?_
            exact join_36  
    exact loop_17 _ 0 a1 hq1 (by omega) (m1) (pcl_nw w1 c1) (Nat.lt_succ_self _)
  refine wn_if_ne C d_X0_ofRepeat_2 (tgt := 9) rfl (by omega) (fun c_2 => ?_) (fun c_2 => ?_)
  · skip
    refine w_iconst C d_X0_ofRepeat_9 (v := (bI false)) rfl ?_
    refine w_st (st' := [.int (bI (decide (le = 0))), .ref o]) (by rw [decide_eq_false (by omega)]) ?_
    exact join_10  
  · skip
    refine w_iconst C d_X0_ofRepeat_5 (v := (bI true)) rfl ?_
    refine w_goto C d_X0_ofRepeat_6 (tgt := 10) rfl ?_
    refine w_st (st' := [.int (bI (decide (le = 0))), .ref o]) (by rw [decide_eq_true (by omega)]) ?_
    exact join_10  
