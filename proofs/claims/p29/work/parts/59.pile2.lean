theorem tw_416 : (Jvm.Cond.methodLink "Corpusline" (127 : Nat) ({ cls := "Corpusline", name := "testFromTop", desc := "(I)LCorpusline$TokenTest;" } : Jvm.MethodName)) ∈ TB := tb_of 416 (by decide +kernel) rfl
theorem tw_418 : (Jvm.Cond.instanceMethod ({ cls := "Corpusline", name := "testFromTop", desc := "(I)LCorpusline$TokenTest;" } : Jvm.MethodName)) ∈ TB := tb_of 418 (by decide +kernel) rfl
theorem tw_419 : (Jvm.Cond.code ({ cls := "Corpusline", name := "testFromTop", desc := "(I)LCorpusline$TokenTest;" } : Jvm.MethodName) prog_1_method_36_code (3 : Nat) (Option.some (Jvm.ClassFile.FieldType.object "Corpusline$TokenTest"))) ∈ TB := tb_of 419 (by decide +kernel) rfl
theorem tw_426 : (Jvm.Cond.methodLink "Corpusline" (134 : Nat) ({ cls := "Corpusline$TokenTest", name := "withLabel", desc := "(I)LCorpusline$TokenTest;" } : Jvm.MethodName)) ∈ TB := tb_of 426 (by decide +kernel) rfl
theorem tw_427 : (Jvm.Cond.instanceMethod ({ cls := "Corpusline$TokenTest", name := "withLabel", desc := "(I)LCorpusline$TokenTest;" } : Jvm.MethodName)) ∈ TB := tb_of 427 (by decide +kernel) rfl
theorem tw_428 : (Jvm.Cond.selects "Corpusline$TokenTest" ({ cls := "Corpusline$TokenTest", name := "withLabel", desc := "(I)LCorpusline$TokenTest;" } : Jvm.MethodName) ({ cls := "Corpusline$TokenTest", name := "withLabel", desc := "(I)LCorpusline$TokenTest;" } : Jvm.MethodName)) ∈ TB := tb_of 428 (by decide +kernel) rfl
theorem tw_429 : (Jvm.Cond.code ({ cls := "Corpusline$TokenTest", name := "withLabel", desc := "(I)LCorpusline$TokenTest;" } : Jvm.MethodName) prog_6_method_5_code (3 : Nat) (Option.some (Jvm.ClassFile.FieldType.object "Corpusline$TokenTest"))) ∈ TB := tb_of 429 (by decide +kernel) rfl
theorem tw_440 : (Jvm.Cond.methodLink "Corpusline" (137 : Nat) ({ cls := "Corpusline$TokenTest", name := "ofBoth", desc := "(LCorpusline$TokenTest;LCorpusline$TokenTest;)LCorpusline$TokenTest;" } : Jvm.MethodName)) ∈ TB := tb_of 440 (by decide +kernel) rfl
theorem tw_469 : (Jvm.Cond.methodLink "Corpusline" (149 : Nat) ({ cls := "Corpusline$Part", name := "ofEither", desc := "(LCorpusline$Part;LCorpusline$Part;)LCorpusline$Part;" } : Jvm.MethodName)) ∈ TB := tb_of 469 (by decide +kernel) rfl
theorem tw_470 : (Jvm.Cond.static ({ cls := "Corpusline$Part", name := "ofEither", desc := "(LCorpusline$Part;LCorpusline$Part;)LCorpusline$Part;" } : Jvm.MethodName)) ∈ TB := tb_of 470 (by decide +kernel) rfl
theorem tw_471 : (Jvm.Cond.code ({ cls := "Corpusline$Part", name := "ofEither", desc := "(LCorpusline$Part;LCorpusline$Part;)LCorpusline$Part;" } : Jvm.MethodName) prog_2_method_4_code (4 : Nat) (Option.some (Jvm.ClassFile.FieldType.object "Corpusline$Part"))) ∈ TB := tb_of 471 (by decide +kernel) rfl
theorem tw_476 : (Jvm.Cond.methodLink "Corpusline" (145 : Nat) ({ cls := "Corpusline$Part", name := "ofChain", desc := "(LCorpusline$Part;LCorpusline$Part;)LCorpusline$Part;" } : Jvm.MethodName)) ∈ TB := tb_of 476 (by decide +kernel) rfl
theorem ts_7 : Cond.selects "Corpusline" ({ cls := "Corpusline", name := "testFromTop", desc := "(I)LCorpusline$TokenTest;" } : MethodName) ({ cls := "Corpusline", name := "testFromTop", desc := "(I)LCorpusline$TokenTest;" } : MethodName) ∈ TB := tb_sel 7 (by decide +kernel) rfl
theorem ok_RX6_137 : okS RX6 137 yX4_ofBoth cX4_ofBoth 4 (Option.some (Jvm.ClassFile.FieldType.object "Corpusline$TokenTest")) 2 := ⟨tw_440, tw_431, tw_12, tw_432, ⟨by decide, by decide, by decide +kernel⟩⟩
theorem ok_RX6_145 : okS RX6 145 yX0_ofChain cX0_ofChain 5 (Option.some (Jvm.ClassFile.FieldType.object "Corpusline$Part")) 2 := ⟨tw_476, tw_460, tw_13, tw_461, ⟨by decide, by decide, by decide +kernel⟩⟩
theorem ok_RX6_149 : okS RX6 149 yX0_ofEither cX0_ofEither 4 (Option.some (Jvm.ClassFile.FieldType.object "Corpusline$Part")) 2 := ⟨tw_469, tw_470, tw_13, tw_471, ⟨by decide, by decide, by decide +kernel⟩⟩
theorem ok_RX6_127 : okV RX6 127 yX6_testFromTop cX6_testFromTop 3 (Option.some (Jvm.ClassFile.FieldType.object "Corpusline$TokenTest")) 1 := ⟨tw_416, tw_418, ts_7, tw_1, tw_419, ⟨by decide, by decide, by decide +kernel⟩⟩
theorem ok_RX6_134 : okV RX6 134 yX4_withLabel cX4_withLabel 3 (Option.some (Jvm.ClassFile.FieldType.object "Corpusline$TokenTest")) 1 := ⟨tw_426, tw_427, tw_428, tw_12, tw_429, ⟨by decide, by decide, by decide +kernel⟩⟩
/-- what a test's cell holds: passing, sames, labels -/
abbrev tC3 : Type := (Nat → Nat) × Nat × Nat
def tsA (G : eG) (ad : Nat → Nat → Nat) (h : hp) (T : Nat → tC3) (a : Nat) : Prop := tst G ad h a (T a).1 (T a).2.1 (T a).2.2 ∧ (T a).2.1 < 512 ∧ (T a).2.2 < 8
theorem tsA.mv {G : eG} {ad : Nat → Nat → Nat} {h h' : hp} {T : Nat → tC3} {a : Nat} (t : tsA G ad h T a) (c : cfr ad h h') : tsA G ad h' T a := ⟨t.1.mv c, t.2⟩
/-- a part in numbers that stands in a heap with its tests -/
def paA (G : eG) (ad : Nat → Nat → Nat) (h : hp) (T : Nat → tC3) (a : Nat) (x : pA) (is : Bool) : Prop := prA G ad h a x is ∧ (1 ≤ x.1 ∧ x.1 ≤ 8 ∧ x.2.2.1 < 256) ∧ ∀ j, j < x.1 → tsA G ad h T (x.2.2.2.2.2.2 j)
theorem paA.mv {G : eG} {ad : Nat → Nat → Nat} {h h' : hp} {T : Nat → tC3} {a : Nat} {x : pA} {is : Bool} (t : paA G ad h T a x is) (c : cfr ad h h') : paA G ad h' T a x is := ⟨t.1.mv c, t.2.1, fun j hj => (t.2.2 j hj).mv c⟩
theorem paA.co {G : eG} {ad : Nat → Nat → Nat} {h : hp} {T : Nat → tC3} {a : Nat} {x : pA} {is : Bool} (t : paA G ad h T a x is) : pco G h a x is := t.1.co (fun j hj => ⟨_, _, _, (t.2.2 j hj).1⟩)
/-- the pile -/
def plk (G : eG) (ad : Nat → Nat → Nat) (h : hp) (g : mS) (T : Nat → tC3) (X : Nat → pA) : Prop := mK g 16 ≤ 8 ∧ ∀ i, i < mK g 16 → (0 < mN g 60 i ∧ (X i).1 = mN g 8 (12 + i)) ∧ paA G ad h T (mN g 60 i - 1) (X i) (mB g 9 (12 + i))
theorem plk.pil {G : eG} {ad : Nat → Nat → Nat} {h : hp} {g : mS} {T : Nat → tC3} {X : Nat → pA} (k : plk G ad h g T X) : pil G ad h g := ⟨k.1, fun i hi => by
  obtain ⟨⟨a, b⟩, c, ⟨d1, d2, d3⟩, e⟩ := k.2 i hi
  rw [← b]
  exact ⟨⟨a, by omega, prt.n c⟩, d1⟩⟩
theorem l_withLabelT {l : Launch} {G : eG} {ad : Nat → Nat → Nat} {h : hp} {t e : Nat} {P : Nat → Nat} {s lb : Nat} (T : tst G ad h t P s lb) (he : e < 3) : kL l G h [] yX4_withLabel cX4_withLabel 3 (Option.some (Jvm.ClassFile.FieldType.object "Corpusline$TokenTest")) { frames := 3, cells := 2, slots := 9, locals := 63 } [.ref t, .int (nI e)] (fun v9 L9 => ∃ a p, v9 = some (.ref a) ∧ L9 = tcl G a p (botP P P) s (lb ||| 2 ^ e)) := by
  obtain ⟨_, p, _, e1, e2⟩ := T
  exact l_withLabel e1 e2 he
theorem l_ofBothT {l : Launch} {G : eG} {ad : Nat → Nat → Nat} {h : hp} {t t' : Nat} {P P' : Nat → Nat} {s lb s' lb' : Nat} (T : tst G ad h t P s lb) (T' : tst G ad h t' P' s' lb') : kL l G h [] yX4_ofBoth cX4_ofBoth 4 (Option.some (Jvm.ClassFile.FieldType.object "Corpusline$TokenTest")) { frames := 2, cells := 2, slots := 9, locals := 40 } [.ref t, .ref t'] (fun v9 L9 => ∃ a p, v9 = some (.ref a) ∧ L9 = tcl G a p (botP P P') (s ||| s') (lb ||| lb')) := by
  obtain ⟨_, p, _, e1, e2⟩ := T
  obtain ⟨_, p', _, e3, e4⟩ := T'
  exact l_ofBoth e1 e2 e3 e4
theorem or_512 {a b : Nat} (ha : a < 512) (hb : b < 512) : a ||| b < 512 := or_lt (n := 9) ha hb
theorem cLabel_1 {S : mS} {v : Int32} (h : inR v 0 2 = false) : cLabel S v = 1 := by rw [cLabel, if_neg (by rw [h]; decide)]
theorem cLabel_2 {S : mS} {v : Int32} (h : inR v 0 2 = true) (h2 : mK S 16 ≤ 0 ∨ mB S 9 (12 + (mK S 16 - 1 - 0)) = false) : cLabel S v = 2 := by
  rw [cLabel, if_pos h, if_neg]
  intro z
  obtain ⟨z1, z2⟩ := canL_of z
  rcases h2 with h2 | h2
  · omega
  · rw [show 12 + (mK S 16 - 1 - 0) = 12 + mK S 16 - 1 by omega, z2] at h2; cases h2
theorem cLabel_T {S : mS} {v : Int32} (h : inR v 0 2 = true) (h1 : 0 < mK S 16) (h2 : mB S 9 (12 + (mK S 16 - 1 - 0)) = true) : cLabel S v = 0 := by
  rw [show 12 + (mK S 16 - 1 - 0) = 12 + mK S 16 - 1 by omega] at h2
  rw [cLabel, if_pos h, if_pos]
  rw [canL, decide_eq_true h1, h2]; rfl
theorem cBoth_1 {S : mS} {o : Nat} (ho : o < 2) (h2 : mK S 16 ≤ o ∨ mB S 9 (12 + (mK S 16 - 1 - o)) = false) : cBoth S = 1 := by
  rw [cBoth, if_neg]
  intro z
  obtain ⟨z1, z2, z3⟩ := canB_of z
  rcases h2 with h2 | h2
  · omega
  · rcases (show o = 0 ∨ o = 1 by omega) with e | e <;> subst e
    · rw [show 12 + (mK S 16 - 1 - 0) = 12 + mK S 16 - 1 by omega, z2] at h2; cases h2
    · rw [show 12 + (mK S 16 - 1 - 1) = 12 + mK S 16 - 2 by omega, z3] at h2; cases h2
theorem cBoth_T {S : mS} (h1 : 1 < mK S 16) (h2 : mB S 9 (12 + (mK S 16 - 1 - 0)) = true) (h3 : mB S 9 (12 + (mK S 16 - 1 - 1)) = true) : cBoth S = 0 := by
  rw [show 12 + (mK S 16 - 1 - 0) = 12 + mK S 16 - 1 by omega] at h2
  rw [show 12 + (mK S 16 - 1 - 1) = 12 + mK S 16 - 2 by omega] at h3
  rw [cBoth, if_pos]
  rw [canB, decide_eq_true h1, h2, h3]; rfl
theorem tt0 {x : pA} : x.2.2.2.2.2.2 0 = x.2.2.2.2.2.2 0 := rfl
def dl_X6_label : List (Nat × Instr × Nat) := [(0, .iload_n 1, 1), (1, .iconst 0, 1), (2, .iconst 2, 1), (3, .invokestatic 57, 3), (6, .aload_n 0, 1), (7, .iconst 0, 1), (8, .invokevirtual 127, 3), (11, .astore_n 2, 1), (12, .aload_n 0, 1), (13, .iconst 1, 1), (14, .invokevirtual 130, 3), (17, .aload_n 0, 1), (18, .aload_n 2, 1), (19, .iload_n 1, 1), (20, .invokevirtual 134, 3), (23, .invokestatic 115, 3), (26, .invokevirtual 119, 3), (29, .pop, 1), (30, .return_, 1)]
theorem dc_X6_label : dnL cX6_label dl_X6_label = true := by decide +kernel
theorem d_X6_label_0 : dn cX6_label 0 (.iload_n 1) 1 1 := dnAt dc_X6_label 0 rfl rfl
theorem d_X6_label_1 : dn cX6_label 1 (.iconst 0) 1 2 := dnAt dc_X6_label 1 rfl rfl
theorem d_X6_label_2 : dn cX6_label 2 (.iconst 2) 1 3 := dnAt dc_X6_label 2 rfl rfl
theorem d_X6_label_3 : dn cX6_label 3 (.invokestatic 57) 3 6 := dnAt dc_X6_label 3 rfl rfl
theorem d_X6_label_6 : dn cX6_label 6 (.aload_n 0) 1 7 := dnAt dc_X6_label 4 rfl rfl
theorem d_X6_label_7 : dn cX6_label 7 (.iconst 0) 1 8 := dnAt dc_X6_label 5 rfl rfl
theorem d_X6_label_8 : dn cX6_label 8 (.invokevirtual 127) 3 11 := dnAt dc_X6_label 6 rfl rfl
theorem d_X6_label_11 : dn cX6_label 11 (.astore_n 2) 1 12 := dnAt dc_X6_label 7 rfl rfl
theorem d_X6_label_12 : dn cX6_label 12 (.aload_n 0) 1 13 := dnAt dc_X6_label 8 rfl rfl
theorem d_X6_label_13 : dn cX6_label 13 (.iconst 1) 1 14 := dnAt dc_X6_label 9 rfl rfl
theorem d_X6_label_14 : dn cX6_label 14 (.invokevirtual 130) 3 17 := dnAt dc_X6_label 10 rfl rfl
theorem d_X6_label_17 : dn cX6_label 17 (.aload_n 0) 1 18 := dnAt dc_X6_label 11 rfl rfl
theorem d_X6_label_18 : dn cX6_label 18 (.aload_n 2) 1 19 := dnAt dc_X6_label 12 rfl rfl
theorem d_X6_label_19 : dn cX6_label 19 (.iload_n 1) 1 20 := dnAt dc_X6_label 13 rfl rfl
theorem d_X6_label_20 : dn cX6_label 20 (.invokevirtual 134) 3 23 := dnAt dc_X6_label 14 rfl rfl
theorem d_X6_label_23 : dn cX6_label 23 (.invokestatic 115) 3 26 := dnAt dc_X6_label 15 rfl rfl
theorem d_X6_label_26 : dn cX6_label 26 (.invokevirtual 119) 3 29 := dnAt dc_X6_label 16 rfl rfl
theorem d_X6_label_29 : dn cX6_label 29 (.pop) 1 30 := dnAt dc_X6_label 17 rfl rfl
theorem d_X6_label_30 : dn cX6_label 30 (.return_) 1 31 := dnAt dc_X6_label 18 rfl rfl
set_option maxHeartbeats 4000000 in
set_option maxRecDepth 100000 in
theorem k_label {l : Launch} {G : eG} {ad : Nat → Nat → Nat} {h : hp} {g : mS} {T : Nat → tC3} {Y : Nat → pA} {lab : Int32} (hlf : l.stackTraces = false) (hm : co G ad g h) (I : mInv g) (L8 : plk G ad h g T Y) : kX l G ad h yX6_label cX6_label 3 (Option.none : Option Jvm.ClassFile.FieldType) { frames := 8, cells := 8, slots := 50, locals := 133 } [.ref (ad 0 0), .int lab] (fun v9 g9 h9 => v9 = none ∧ cLabel g lab = 0 ∧ ∃ a t, g9 = psh (poS g 1) a ∧ prA G ad h9 a (1, 1, 1, rsF ((T ((Y (mK g 16 - 1 - 0)).2.2.2.2.2.2 0)).2.1) 9, false, (fun _ => 0), fun _ => t) true ∧ tst G ad h9 t (botP (T ((Y (mK g 16 - 1 - 0)).2.2.2.2.2.2 0)).1 (T ((Y (mK g 16 - 1 - 0)).2.2.2.2.2.2 0)).1) ((T ((Y (mK g 16 - 1 - 0)).2.2.2.2.2.2 0)).2.1) ((T ((Y (mK g 16 - 1 - 0)).2.2.2.2.2.2 0)).2.2 ||| 2 ^ tn lab) ∧ h t = none) (fun E9 g9 => (E9 = "java/lang/IllegalArgumentException" ∧ cLabel g lab = 1 ∨ E9 = "java/lang/IllegalStateException" ∧ cLabel g lab = 2) ∧ g9 = g) := by
  refine kX.of hlf hm (by decide) (Nat.le_of_ble_eq_true rfl) ?_
  intro x C A TY X
  show VC G x ad h g 0 0 0 [(0, .ref (ad 0 0)), (1, .int lab)] []
  refine c_iload_n C d_X6_label_0 1 rfl ?_
  refine c_iconst C d_X6_label_1 (v := (nI 0)) rfl ?_
  refine c_iconst C d_X6_label_2 (v := (nI 2)) rfl ?_
  refine k_callSX C X cfr_rf d_X6_label_3 ok_RX6_57 (fun l h hl hm hf => k_demandRange hl hm lab ((nI 0)) ((nI 2))) (rest := []) rfl rfl (Nat.le_of_ble_eq_true rfl) ⟨⟨by decide, by decide⟩, Nat.le_of_ble_eq_true rfl, Nat.le_of_ble_eq_true rfl⟩ (fun _ _ e => ⟨Or.inl ⟨e.1, cLabel_1 e.2.1⟩, e.2.2⟩) (fun v9 g9 hq1 e9 F1 => ?_)
  obtain ⟨rfl, z1, i1⟩ := e9
  refine c_eq z1 ?_
  refine c_base F1 ?_
  show VC G x ad h g 1 6 6 [(0, .ref (ad 0 0)), (1, .int lab)] []
  replace i1 : inR lab 0 2 = true := i1
  obtain ⟨j1, -, s1⟩ := inR_of i1 (by decide) (by decide)
  refine c_lve (lv' := [(0, .ref (ad 0 0)), (1, .int (nI (tn lab)))]) (by rw [← j1]) ?_
  refine c_aload_n C d_X6_label_6 0 rfl ?_
  refine c_iconst C d_X6_label_7 (v := (nI 0)) rfl ?_
  refine k_callVX C X cfr_rf d_X6_label_8 ok_RX6_127 (k := 0) (i' := 0) (fun l h hl hm hf => k_testFromTop (o := 0) hl hm L8.1 (fun j hj => (L8.2 j hj).1.1) (by omega) (fun q => ⟨(L8.2 (mK g 16 - 1 - 0) (by omega)).2.1.mv hf, (L8.2 (mK g 16 - 1 - 0) (by omega)).2.2.1.1, Nat.lt_succ_of_le (L8.2 (mK g 16 - 1 - 0) (by omega)).2.2.1.2.1⟩)) rfl rfl rfl rfl (rest := []) rfl rfl (Nat.le_of_ble_eq_true rfl) ⟨⟨by decide, by decide⟩, Nat.le_of_ble_eq_true rfl, Nat.le_of_ble_eq_true rfl⟩ (fun _ _ e => ⟨Or.inr (⟨e.1, cLabel_2 i1 e.2.1⟩), e.2.2⟩) (fun v9 g9 hq2 e9 F2 => ?_)
  obtain ⟨rfl, z2, i2, j2⟩ := e9
  refine c_eq z2 ?_
  have T2 := (L8.2 (mK g 16 - 1 - 0) (by omega)).2.2.2 0 (L8.2 (mK g 16 - 1 - 0) (by omega)).2.2.1.1
  refine c_base F2 ?_
  show VC G x ad h g 3 18 11 [(0, .ref (ad 0 0)), (1, .int (nI (tn lab)))] [.ref ((Y (mK g 16 - 1 - 0)).2.2.2.2.2.2 0)]
  have c0 := cLabel_T i1 i2 j2
  obtain ⟨nt2, pp2, np2, ht2, hp2⟩ := id T2.1
  refine c_astore_n C d_X6_label_11 (lv' := [(2, .ref ((Y (mK g 16 - 1 - 0)).2.2.2.2.2.2 0)), (0, .ref (ad 0 0)), (1, .int (nI (tn lab)))]) (by decide) rfl ?_
  refine c_aload_n C d_X6_label_12 1 rfl ?_
  refine c_iconst C d_X6_label_13 (v := (nI 1)) rfl ?_
  refine k_callV C d_X6_label_14 ok_RX6_130 (k := 0) (i' := 0) (fun l h hm hf => k_pop hm (L8.1) (by omega)) rfl rfl rfl rfl (rest := []) rfl rfl (Nat.le_of_ble_eq_true rfl) ⟨⟨by decide, by decide⟩, Nat.le_of_ble_eq_true rfl, Nat.le_of_ble_eq_true rfl⟩ (fun v9 g9 hq3 e9 F3 => ?_)
  obtain ⟨rfl, z3⟩ := e9
  refine c_eq z3 ?_
  refine c_base F3 ?_
  show VC G x ad h (poS g 1) 3 18 17 [(2, .ref ((Y (mK g 16 - 1 - 0)).2.2.2.2.2.2 0)), (0, .ref (ad 0 0)), (1, .int (nI (tn lab)))] []
  refine c_aload_n C d_X6_label_17 1 rfl ?_
  refine c_aload_n C d_X6_label_18 0 rfl ?_
  refine c_iload_n C d_X6_label_19 2 rfl ?_
  refine k_callLV C d_X6_label_20 ok_RX6_134 (fun l h hm hf => l_withLabelT (T2.1.mv hf) (by omega)) (nt2) (ht2) rfl rfl (rest := [.ref (ad 0 0)]) rfl rfl (Nat.le_of_ble_eq_true rfl) ⟨⟨by decide, by decide⟩, Nat.le_of_ble_eq_true rfl, Nat.le_of_ble_eq_true rfl⟩ (fun v9 hp4 hq4 L4 M4 e9 F4 l4 w4 c4 => ?_)
  obtain ⟨t4, p4, rfl, rfl⟩ := e9
  show VC G x ad hq4 (poS g 1) 5 27 23 [(2, .ref ((Y (mK g 16 - 1 - 0)).2.2.2.2.2.2 0)), (0, .ref (ad 0 0)), (1, .int (nI (tn lab)))] [.ref t4, .ref (ad 0 0)]
  have T4 := tcl_t M4 w4 c4
  refine k_callL C d_X6_label_23 ok_RX6_115 (fun l h hm hf => l_ofTestT (T4.mv hf) (T2.2.1)) (rest := [.ref (ad 0 0)]) rfl rfl (Nat.le_of_ble_eq_true rfl) ⟨⟨by decide, by decide⟩, Nat.le_of_ble_eq_true rfl, Nat.le_of_ble_eq_true rfl⟩ (fun v9 hp5 hq5 L5 M5 e9 F5 l5 w5 c5 => ?_)
  obtain ⟨a5, pt5, pn5, rfl, rfl⟩ := e9
  show VC G x ad hq5 (poS g 1) 8 50 26 [(2, .ref ((Y (mK g 16 - 1 - 0)).2.2.2.2.2.2 0)), (0, .ref (ad 0 0)), (1, .int (nI (tn lab)))] [.ref a5, .ref (ad 0 0)]
  have Q5 := pcl_p M5 w5 c5
  have T5 := T4.mv (cfr.le F5 l5)
  obtain ⟨na5, pt5, pn5, y15, y25, y35, y45, y55⟩ := id Q5
  refine k_callV C d_X6_label_26 ok_RX6_119 (k := 0) (i' := 0) (fun l h hm hf => k_push hm ((by show mK g 16 - 1 < 8; have := L8.1; omega)) (na5) (hf _ _ na5.w y35)) rfl rfl rfl rfl (rest := []) rfl rfl (Nat.le_of_ble_eq_true rfl) ⟨⟨by decide, by decide⟩, Nat.le_of_ble_eq_true rfl, Nat.le_of_ble_eq_true rfl⟩ (fun v9 g9 hq6 e9 F6 => ?_)
  obtain ⟨rfl, z6⟩ := e9
  refine c_eq z6 ?_
  refine c_base F6 ?_
  show VC G x ad hq5 (uK (uN (poS g 1) 60 (mK (poS g 1) 16) (a5 + 1)) 16 (mK (poS g 1) 16 + 1)) 8 50 29 [(2, .ref ((Y (mK g 16 - 1 - 0)).2.2.2.2.2.2 0)), (0, .ref (ad 0 0)), (1, .int (nI (tn lab)))] [.int (nI (mK (poS g 1) 16 + 1))]
  refine c_pop C d_X6_label_29 rfl ?_
  exact k_vret C A (cfr_tr (cfr_tr cfr_rf (cfr.le F4 l4)) (cfr.le F5 l5)) TY d_X6_label_30 (Nat.le_of_ble_eq_true rfl) (Nat.le_of_ble_eq_true rfl) (fun h9 F9 => ⟨rfl, c0, a5, t4, rfl, Q5.mv F9, T5.mv F9, new_none F4 T4.1.w (w4.1 1 _ rfl)⟩)
def dl_X6_both : List (Nat × Instr × Nat) := [(0, .aload_n 0, 1), (1, .iconst 0, 1), (2, .invokevirtual 127, 3), (5, .astore_n 1, 1), (6, .aload_n 0, 1), (7, .iconst 1, 1), (8, .invokevirtual 127, 3), (11, .astore_n 2, 1), (12, .aload_n 0, 1), (13, .iconst 2, 1), (14, .invokevirtual 130, 3), (17, .aload_n 0, 1), (18, .aload_n 2, 1), (19, .aload_n 1, 1), (20, .invokestatic 137, 3), (23, .invokestatic 115, 3), (26, .invokevirtual 119, 3), (29, .ireturn, 1)]
theorem dc_X6_both : dnL cX6_both dl_X6_both = true := by decide +kernel
theorem d_X6_both_0 : dn cX6_both 0 (.aload_n 0) 1 1 := dnAt dc_X6_both 0 rfl rfl
theorem d_X6_both_1 : dn cX6_both 1 (.iconst 0) 1 2 := dnAt dc_X6_both 1 rfl rfl
theorem d_X6_both_2 : dn cX6_both 2 (.invokevirtual 127) 3 5 := dnAt dc_X6_both 2 rfl rfl
theorem d_X6_both_5 : dn cX6_both 5 (.astore_n 1) 1 6 := dnAt dc_X6_both 3 rfl rfl
theorem d_X6_both_6 : dn cX6_both 6 (.aload_n 0) 1 7 := dnAt dc_X6_both 4 rfl rfl
theorem d_X6_both_7 : dn cX6_both 7 (.iconst 1) 1 8 := dnAt dc_X6_both 5 rfl rfl
theorem d_X6_both_8 : dn cX6_both 8 (.invokevirtual 127) 3 11 := dnAt dc_X6_both 6 rfl rfl
theorem d_X6_both_11 : dn cX6_both 11 (.astore_n 2) 1 12 := dnAt dc_X6_both 7 rfl rfl
theorem d_X6_both_12 : dn cX6_both 12 (.aload_n 0) 1 13 := dnAt dc_X6_both 8 rfl rfl
theorem d_X6_both_13 : dn cX6_both 13 (.iconst 2) 1 14 := dnAt dc_X6_both 9 rfl rfl
theorem d_X6_both_14 : dn cX6_both 14 (.invokevirtual 130) 3 17 := dnAt dc_X6_both 10 rfl rfl
theorem d_X6_both_17 : dn cX6_both 17 (.aload_n 0) 1 18 := dnAt dc_X6_both 11 rfl rfl
theorem d_X6_both_18 : dn cX6_both 18 (.aload_n 2) 1 19 := dnAt dc_X6_both 12 rfl rfl
theorem d_X6_both_19 : dn cX6_both 19 (.aload_n 1) 1 20 := dnAt dc_X6_both 13 rfl rfl
theorem d_X6_both_20 : dn cX6_both 20 (.invokestatic 137) 3 23 := dnAt dc_X6_both 14 rfl rfl
theorem d_X6_both_23 : dn cX6_both 23 (.invokestatic 115) 3 26 := dnAt dc_X6_both 15 rfl rfl
theorem d_X6_both_26 : dn cX6_both 26 (.invokevirtual 119) 3 29 := dnAt dc_X6_both 16 rfl rfl
theorem d_X6_both_29 : dn cX6_both 29 (.ireturn) 1 30 := dnAt dc_X6_both 17 rfl rfl
set_option maxHeartbeats 4000000 in
set_option maxRecDepth 100000 in
theorem k_both {l : Launch} {G : eG} {ad : Nat → Nat → Nat} {h : hp} {g : mS} {T : Nat → tC3} {Y : Nat → pA} (hlf : l.stackTraces = false) (hm : co G ad g h) (I : mInv g) (L8 : plk G ad h g T Y) : kX l G ad h yX6_both cX6_both 3 (Option.some Jvm.ClassFile.FieldType.int) { frames := 8, cells := 9, slots := 56, locals := 133 } [.ref (ad 0 0)] (fun v9 g9 h9 => v9 = some (.int (nI (rBoth g))) ∧ cBoth g = 0 ∧ ∃ a t, g9 = psh (poS g 2) a ∧ prA G ad h9 a (1, 1, 1, rsF ((T ((Y (mK g 16 - 1 - 1)).2.2.2.2.2.2 0)).2.1 ||| (T ((Y (mK g 16 - 1 - 0)).2.2.2.2.2.2 0)).2.1) 9, false, (fun _ => 0), fun _ => t) true ∧ tst G ad h9 t (botP (T ((Y (mK g 16 - 1 - 1)).2.2.2.2.2.2 0)).1 (T ((Y (mK g 16 - 1 - 0)).2.2.2.2.2.2 0)).1) ((T ((Y (mK g 16 - 1 - 1)).2.2.2.2.2.2 0)).2.1 ||| (T ((Y (mK g 16 - 1 - 0)).2.2.2.2.2.2 0)).2.1) ((T ((Y (mK g 16 - 1 - 1)).2.2.2.2.2.2 0)).2.2 ||| (T ((Y (mK g 16 - 1 - 0)).2.2.2.2.2.2 0)).2.2) ∧ h t = none) (fun E9 g9 => (E9 = "java/lang/IllegalStateException" ∧ cBoth g = 1) ∧ g9 = g) := by
  refine kX.of hlf hm (by decide) (Nat.le_of_ble_eq_true rfl) ?_
  intro x C A TY X
  show VC G x ad h g 0 0 0 [(0, .ref (ad 0 0))] []
  refine c_aload_n C d_X6_both_0 0 rfl ?_
  refine c_iconst C d_X6_both_1 (v := (nI 0)) rfl ?_
  refine k_callVX C X cfr_rf d_X6_both_2 ok_RX6_127 (k := 0) (i' := 0) (fun l h hl hm hf => k_testFromTop (o := 0) hl hm L8.1 (fun j hj => (L8.2 j hj).1.1) (by omega) (fun q => ⟨(L8.2 (mK g 16 - 1 - 0) (by omega)).2.1.mv hf, (L8.2 (mK g 16 - 1 - 0) (by omega)).2.2.1.1, Nat.lt_succ_of_le (L8.2 (mK g 16 - 1 - 0) (by omega)).2.2.1.2.1⟩)) rfl rfl rfl rfl (rest := []) rfl rfl (Nat.le_of_ble_eq_true rfl) ⟨⟨by decide, by decide⟩, Nat.le_of_ble_eq_true rfl, Nat.le_of_ble_eq_true rfl⟩ (fun _ _ e => ⟨⟨e.1, cBoth_1 (o := 0) (by omega) e.2.1⟩, e.2.2⟩) (fun v9 g9 hq1 e9 F1 => ?_)
  obtain ⟨rfl, z1, i1, j1⟩ := e9
  refine c_eq z1 ?_
  have T1 := (L8.2 (mK g 16 - 1 - 0) (by omega)).2.2.2 0 (L8.2 (mK g 16 - 1 - 0) (by omega)).2.2.1.1
  refine c_base F1 ?_
  show VC G x ad h g 2 12 5 [(0, .ref (ad 0 0))] [.ref ((Y (mK g 16 - 1 - 0)).2.2.2.2.2.2 0)]
  refine c_astore_n C d_X6_both_5 (lv' := [(1, .ref ((Y (mK g 16 - 1 - 0)).2.2.2.2.2.2 0)), (0, .ref (ad 0 0))]) (by decide) rfl ?_
  refine c_aload_n C d_X6_both_6 1 rfl ?_
  refine c_iconst C d_X6_both_7 (v := (nI 1)) rfl ?_
  refine k_callVX C X cfr_rf d_X6_both_8 ok_RX6_127 (k := 0) (i' := 0) (fun l h hl hm hf => k_testFromTop (o := 1) hl hm L8.1 (fun j hj => (L8.2 j hj).1.1) (by omega) (fun q => ⟨(L8.2 (mK g 16 - 1 - 1) (by omega)).2.1.mv hf, (L8.2 (mK g 16 - 1 - 1) (by omega)).2.2.1.1, Nat.lt_succ_of_le (L8.2 (mK g 16 - 1 - 1) (by omega)).2.2.1.2.1⟩)) rfl rfl rfl rfl (rest := []) rfl rfl (Nat.le_of_ble_eq_true rfl) ⟨⟨by decide, by decide⟩, Nat.le_of_ble_eq_true rfl, Nat.le_of_ble_eq_true rfl⟩ (fun _ _ e => ⟨⟨e.1, cBoth_1 (o := 1) (by omega) e.2.1⟩, e.2.2⟩) (fun v9 g9 hq2 e9 F2 => ?_)
  obtain ⟨rfl, z2, i2, j2⟩ := e9
  refine c_eq z2 ?_
  have T2 := (L8.2 (mK g 16 - 1 - 1) (by omega)).2.2.2 0 (L8.2 (mK g 16 - 1 - 1) (by omega)).2.2.1.1
  refine c_base F2 ?_
  show VC G x ad h g 4 24 11 [(1, .ref ((Y (mK g 16 - 1 - 0)).2.2.2.2.2.2 0)), (0, .ref (ad 0 0))] [.ref ((Y (mK g 16 - 1 - 1)).2.2.2.2.2.2 0)]
  have c0 := cBoth_T i2 j1 j2
  refine c_astore_n C d_X6_both_11 (lv' := [(2, .ref ((Y (mK g 16 - 1 - 1)).2.2.2.2.2.2 0)), (1, .ref ((Y (mK g 16 - 1 - 0)).2.2.2.2.2.2 0)), (0, .ref (ad 0 0))]) (by decide) rfl ?_
  refine c_aload_n C d_X6_both_12 2 rfl ?_
  refine c_iconst C d_X6_both_13 (v := (nI 2)) rfl ?_
  refine k_callV C d_X6_both_14 ok_RX6_130 (k := 0) (i' := 0) (fun l h hm hf => k_pop hm (L8.1) (by omega)) rfl rfl rfl rfl (rest := []) rfl rfl (Nat.le_of_ble_eq_true rfl) ⟨⟨by decide, by decide⟩, Nat.le_of_ble_eq_true rfl, Nat.le_of_ble_eq_true rfl⟩ (fun v9 g9 hq3 e9 F3 => ?_)
  obtain ⟨rfl, z3⟩ := e9
  refine c_eq z3 ?_
  refine c_base F3 ?_
  show VC G x ad h (poS g 2) 4 24 17 [(2, .ref ((Y (mK g 16 - 1 - 1)).2.2.2.2.2.2 0)), (1, .ref ((Y (mK g 16 - 1 - 0)).2.2.2.2.2.2 0)), (0, .ref (ad 0 0))] []
  refine c_aload_n C d_X6_both_17 2 rfl ?_
  refine c_aload_n C d_X6_both_18 0 rfl ?_
  refine c_aload_n C d_X6_both_19 1 rfl ?_
  refine k_callL C d_X6_both_20 ok_RX6_137 (fun l h hm hf => l_ofBothT (T2.1.mv hf) (T1.1.mv hf)) (rest := [.ref (ad 0 0)]) rfl rfl (Nat.le_of_ble_eq_true rfl) ⟨⟨by decide, by decide⟩, Nat.le_of_ble_eq_true rfl, Nat.le_of_ble_eq_true rfl⟩ (fun v9 hp4 hq4 L4 M4 e9 F4 l4 w4 c4 => ?_)
  obtain ⟨t4, p4, rfl, rfl⟩ := e9
  show VC G x ad hq4 (poS g 2) 6 33 23 [(2, .ref ((Y (mK g 16 - 1 - 1)).2.2.2.2.2.2 0)), (1, .ref ((Y (mK g 16 - 1 - 0)).2.2.2.2.2.2 0)), (0, .ref (ad 0 0))] [.ref t4, .ref (ad 0 0)]
  have T4 := tcl_t M4 w4 c4
  refine k_callL C d_X6_both_23 ok_RX6_115 (fun l h hm hf => l_ofTestT (T4.mv hf) (or_512 T2.2.1 T1.2.1)) (rest := [.ref (ad 0 0)]) rfl rfl (Nat.le_of_ble_eq_true rfl) ⟨⟨by decide, by decide⟩, Nat.le_of_ble_eq_true rfl, Nat.le_of_ble_eq_true rfl⟩ (fun v9 hp5 hq5 L5 M5 e9 F5 l5 w5 c5 => ?_)
  obtain ⟨a5, pt5, pn5, rfl, rfl⟩ := e9
  show VC G x ad hq5 (poS g 2) 9 56 26 [(2, .ref ((Y (mK g 16 - 1 - 1)).2.2.2.2.2.2 0)), (1, .ref ((Y (mK g 16 - 1 - 0)).2.2.2.2.2.2 0)), (0, .ref (ad 0 0))] [.ref a5, .ref (ad 0 0)]
  have Q5 := pcl_p M5 w5 c5
  have T5 := T4.mv (cfr.le F5 l5)
  obtain ⟨na5, pt5, pn5, y15, y25, y35, y45, y55⟩ := id Q5
  refine k_callV C d_X6_both_26 ok_RX6_119 (k := 0) (i' := 0) (fun l h hm hf => k_push hm ((by show mK g 16 - 2 < 8; have := L8.1; omega)) (na5) (hf _ _ na5.w y35)) rfl rfl rfl rfl (rest := []) rfl rfl (Nat.le_of_ble_eq_true rfl) ⟨⟨by decide, by decide⟩, Nat.le_of_ble_eq_true rfl, Nat.le_of_ble_eq_true rfl⟩ (fun v9 g9 hq6 e9 F6 => ?_)
  obtain ⟨rfl, z6⟩ := e9
  refine c_eq z6 ?_
  refine c_base F6 ?_
  show VC G x ad hq5 (uK (uN (poS g 2) 60 (mK (poS g 2) 16) (a5 + 1)) 16 (mK (poS g 2) 16 + 1)) 9 56 29 [(2, .ref ((Y (mK g 16 - 1 - 1)).2.2.2.2.2.2 0)), (1, .ref ((Y (mK g 16 - 1 - 0)).2.2.2.2.2.2 0)), (0, .ref (ad 0 0))] [.int (nI (mK (poS g 2) 16 + 1))]
  refine c_st (st' := [.int (nI (rBoth g))]) (by rw [rBoth, if_pos c0, show mK g 16 - 1 = mK g 16 - 2 + 1 by omega]; rfl) ?_
  exact k_iret C A (cfr_tr (cfr_tr cfr_rf (cfr.le F4 l4)) (cfr.le F5 l5)) TY d_X6_both_29 rfl (Nat.le_of_ble_eq_true rfl) (Nat.le_of_ble_eq_true rfl) (fun h9 F9 => ⟨rfl, c0, a5, t4, rfl, Q5.mv F9, T5.mv F9, new_none F4 T4.1.w (w4.1 1 _ rfl)⟩)
def dl_X6_chain : List (Nat × Instr × Nat) := [(0, .aload_n 0, 1), (1, .iconst 0, 1), (2, .invokevirtual 141, 3), (5, .astore_n 1, 1), (6, .aload_n 0, 1), (7, .iconst 1, 1), (8, .invokevirtual 141, 3), (11, .astore_n 2, 1), (12, .aload_n 0, 1), (13, .iconst 2, 1), (14, .invokevirtual 130, 3), (17, .aload_n 0, 1), (18, .aload_n 2, 1), (19, .aload_n 1, 1), (20, .invokestatic 145, 3), (23, .invokevirtual 119, 3), (26, .ireturn, 1)]
theorem dc_X6_chain : dnL cX6_chain dl_X6_chain = true := by decide +kernel
theorem d_X6_chain_0 : dn cX6_chain 0 (.aload_n 0) 1 1 := dnAt dc_X6_chain 0 rfl rfl
theorem d_X6_chain_1 : dn cX6_chain 1 (.iconst 0) 1 2 := dnAt dc_X6_chain 1 rfl rfl
theorem d_X6_chain_2 : dn cX6_chain 2 (.invokevirtual 141) 3 5 := dnAt dc_X6_chain 2 rfl rfl
theorem d_X6_chain_5 : dn cX6_chain 5 (.astore_n 1) 1 6 := dnAt dc_X6_chain 3 rfl rfl
theorem d_X6_chain_6 : dn cX6_chain 6 (.aload_n 0) 1 7 := dnAt dc_X6_chain 4 rfl rfl
theorem d_X6_chain_7 : dn cX6_chain 7 (.iconst 1) 1 8 := dnAt dc_X6_chain 5 rfl rfl
theorem d_X6_chain_8 : dn cX6_chain 8 (.invokevirtual 141) 3 11 := dnAt dc_X6_chain 6 rfl rfl
theorem d_X6_chain_11 : dn cX6_chain 11 (.astore_n 2) 1 12 := dnAt dc_X6_chain 7 rfl rfl
theorem d_X6_chain_12 : dn cX6_chain 12 (.aload_n 0) 1 13 := dnAt dc_X6_chain 8 rfl rfl
theorem d_X6_chain_13 : dn cX6_chain 13 (.iconst 2) 1 14 := dnAt dc_X6_chain 9 rfl rfl
theorem d_X6_chain_14 : dn cX6_chain 14 (.invokevirtual 130) 3 17 := dnAt dc_X6_chain 10 rfl rfl
theorem d_X6_chain_17 : dn cX6_chain 17 (.aload_n 0) 1 18 := dnAt dc_X6_chain 11 rfl rfl
theorem d_X6_chain_18 : dn cX6_chain 18 (.aload_n 2) 1 19 := dnAt dc_X6_chain 12 rfl rfl
theorem d_X6_chain_19 : dn cX6_chain 19 (.aload_n 1) 1 20 := dnAt dc_X6_chain 13 rfl rfl
theorem d_X6_chain_20 : dn cX6_chain 20 (.invokestatic 145) 3 23 := dnAt dc_X6_chain 14 rfl rfl
theorem d_X6_chain_23 : dn cX6_chain 23 (.invokevirtual 119) 3 26 := dnAt dc_X6_chain 15 rfl rfl
theorem d_X6_chain_26 : dn cX6_chain 26 (.ireturn) 1 27 := dnAt dc_X6_chain 16 rfl rfl
set_option maxHeartbeats 4000000 in
set_option maxRecDepth 100000 in
theorem k_chain {l : Launch} {G : eG} {ad : Nat → Nat → Nat} {h : hp} {g : mS} {T : Nat → tC3} {Y : Nat → pA} (hlf : l.stackTraces = false) (hm : co G ad g h) (I : mInv g) (L8 : plk G ad h g T Y) : kX l G ad h yX6_chain cX6_chain 3 (Option.some Jvm.ClassFile.FieldType.int) { frames := 7, cells := 6, slots := 42, locals := 111 } [.ref (ad 0 0)] (fun v9 g9 h9 => v9 = some (.int (nI (rTwo g))) ∧ cTwo g = 0 ∧ ∃ a, g9 = psh (poS g 2) a ∧ prA G ad h9 a (chA (Y (mK g 16 - 1 - 1)) (Y (mK g 16 - 1 - 0))) false) (fun E9 g9 => (E9 = "java/lang/IllegalStateException" ∧ cTwo g = 1) ∧ g9 = g) := by
  refine kX.of hlf hm (by decide) (Nat.le_of_ble_eq_true rfl) ?_
  intro x C A TY X
  show VC G x ad h g 0 0 0 [(0, .ref (ad 0 0))] []
  refine c_aload_n C d_X6_chain_0 0 rfl ?_
  refine c_iconst C d_X6_chain_1 (v := (nI 0)) rfl ?_
  refine k_callVX C X cfr_rf d_X6_chain_2 ok_RX6_141 (k := 0) (i' := 0) (fun l h hl hm hf => k_partFromTop (o := 0) hl hm L8.1 (fun j hj => (L8.2 j hj).1.1) (by omega)) rfl rfl rfl rfl (rest := []) rfl rfl (Nat.le_of_ble_eq_true rfl) ⟨⟨by decide, by decide⟩, Nat.le_of_ble_eq_true rfl, Nat.le_of_ble_eq_true rfl⟩ (fun _ _ e => ⟨⟨e.1, by rw [cTwo, if_pos (by have := e.2.1; omega)]⟩, e.2.2⟩) (fun v9 g9 hq1 e9 F1 => ?_)
  obtain ⟨rfl, z1, i1⟩ := e9
  refine c_eq z1 ?_
  have R1 := (L8.2 (mK g 16 - 1 - 0) (by omega)).2
  refine c_base F1 ?_
  show VC G x ad h g 1 6 5 [(0, .ref (ad 0 0))] [.ref (mN g 60 (mK g 16 - 1 - 0) - 1)]
  refine c_astore_n C d_X6_chain_5 (lv' := [(1, .ref (mN g 60 (mK g 16 - 1 - 0) - 1)), (0, .ref (ad 0 0))]) (by decide) rfl ?_
  refine c_aload_n C d_X6_chain_6 1 rfl ?_
  refine c_iconst C d_X6_chain_7 (v := (nI 1)) rfl ?_
  refine k_callVX C X cfr_rf d_X6_chain_8 ok_RX6_141 (k := 0) (i' := 0) (fun l h hl hm hf => k_partFromTop (o := 1) hl hm L8.1 (fun j hj => (L8.2 j hj).1.1) (by omega)) rfl rfl rfl rfl (rest := []) rfl rfl (Nat.le_of_ble_eq_true rfl) ⟨⟨by decide, by decide⟩, Nat.le_of_ble_eq_true rfl, Nat.le_of_ble_eq_true rfl⟩ (fun _ _ e => ⟨⟨e.1, by rw [cTwo, if_pos (by have := e.2.1; omega)]⟩, e.2.2⟩) (fun v9 g9 hq2 e9 F2 => ?_)
  obtain ⟨rfl, z2, i2⟩ := e9
  refine c_eq z2 ?_
  have R2 := (L8.2 (mK g 16 - 1 - 1) (by omega)).2
  refine c_base F2 ?_
  show VC G x ad h g 2 12 11 [(1, .ref (mN g 60 (mK g 16 - 1 - 0) - 1)), (0, .ref (ad 0 0))] [.ref (mN g 60 (mK g 16 - 1 - 1) - 1)]
  have P2 := mInv_pair I (show 2 ≤ mK g 16 by omega)
  have N1 := (L8.2 (mK g 16 - 1 - 0) (by omega)).1.2
  have N2 := (L8.2 (mK g 16 - 1 - 1) (by omega)).1.2
  rw [show 12 + (mK g 16 - 1 - 0) = 12 + mK g 16 - 2 + 1 by omega] at N1
  rw [show 12 + (mK g 16 - 1 - 1) = 12 + mK g 16 - 2 by omega] at N2
  have c0 : cTwo g = 0 := by rw [cTwo, if_neg (by omega)]
  refine c_astore_n C d_X6_chain_11 (lv' := [(2, .ref (mN g 60 (mK g 16 - 1 - 1) - 1)), (1, .ref (mN g 60 (mK g 16 - 1 - 0) - 1)), (0, .ref (ad 0 0))]) (by decide) rfl ?_
  refine c_aload_n C d_X6_chain_12 2 rfl ?_
  refine c_iconst C d_X6_chain_13 (v := (nI 2)) rfl ?_
  refine k_callV C d_X6_chain_14 ok_RX6_130 (k := 0) (i' := 0) (fun l h hm hf => k_pop hm (L8.1) (by omega)) rfl rfl rfl rfl (rest := []) rfl rfl (Nat.le_of_ble_eq_true rfl) ⟨⟨by decide, by decide⟩, Nat.le_of_ble_eq_true rfl, Nat.le_of_ble_eq_true rfl⟩ (fun v9 g9 hq3 e9 F3 => ?_)
  obtain ⟨rfl, z3⟩ := e9
  refine c_eq z3 ?_
  refine c_base F3 ?_
  show VC G x ad h (poS g 2) 2 12 17 [(2, .ref (mN g 60 (mK g 16 - 1 - 1) - 1)), (1, .ref (mN g 60 (mK g 16 - 1 - 0) - 1)), (0, .ref (ad 0 0))] []
  refine c_aload_n C d_X6_chain_17 2 rfl ?_
  refine c_aload_n C d_X6_chain_18 0 rfl ?_
  refine c_aload_n C d_X6_chain_19 1 rfl ?_
  refine k_callL C d_X6_chain_20 ok_RX6_145 (fun l h hm hf => l_chain (R2.mv hf).co (R1.mv hf).co (by omega) R2.2.1.2.2) (rest := [.ref (ad 0 0)]) rfl rfl (Nat.le_of_ble_eq_true rfl) ⟨⟨by decide, by decide⟩, Nat.le_of_ble_eq_true rfl, Nat.le_of_ble_eq_true rfl⟩ (fun v9 hp4 hq4 L4 M4 e9 F4 l4 w4 c4 => ?_)
  obtain ⟨a4, pt4, pn4, rfl, rfl⟩ := e9
  show VC G x ad hq4 (poS g 2) 5 35 23 [(2, .ref (mN g 60 (mK g 16 - 1 - 1) - 1)), (1, .ref (mN g 60 (mK g 16 - 1 - 0) - 1)), (0, .ref (ad 0 0))] [.ref a4, .ref (ad 0 0)]
  have Q4 := pcl_p M4 w4 c4
  obtain ⟨na4, pt4, pn4, y14, y24, y34, y44, y54⟩ := id Q4
  refine k_callV C d_X6_chain_23 ok_RX6_119 (k := 0) (i' := 0) (fun l h hm hf => k_push hm ((by show mK g 16 - 2 < 8; have := L8.1; omega)) (na4) (hf _ _ na4.w y34)) rfl rfl rfl rfl (rest := []) rfl rfl (Nat.le_of_ble_eq_true rfl) ⟨⟨by decide, by decide⟩, Nat.le_of_ble_eq_true rfl, Nat.le_of_ble_eq_true rfl⟩ (fun v9 g9 hq5 e9 F5 => ?_)
  obtain ⟨rfl, z5⟩ := e9
  refine c_eq z5 ?_
  refine c_base F5 ?_
  show VC G x ad hq4 (uK (uN (poS g 2) 60 (mK (poS g 2) 16) (a4 + 1)) 16 (mK (poS g 2) 16 + 1)) 5 35 26 [(2, .ref (mN g 60 (mK g 16 - 1 - 1) - 1)), (1, .ref (mN g 60 (mK g 16 - 1 - 0) - 1)), (0, .ref (ad 0 0))] [.int (nI (mK (poS g 2) 16 + 1))]
  refine c_st (st' := [.int (nI (rTwo g))]) (by rw [rTwo, if_pos c0, show mK g 16 - 1 = mK g 16 - 2 + 1 by omega]; rfl) ?_
  exact k_iret C A (cfr_tr cfr_rf (cfr.le F4 l4)) TY d_X6_chain_26 rfl (Nat.le_of_ble_eq_true rfl) (Nat.le_of_ble_eq_true rfl) (fun h9 F9 => ⟨rfl, c0, a4, rfl, prA.mv Q4 F9⟩)
def dl_X6_either : List (Nat × Instr × Nat) := [(0, .aload_n 0, 1), (1, .iconst 0, 1), (2, .invokevirtual 141, 3), (5, .astore_n 1, 1), (6, .aload_n 0, 1), (7, .iconst 1, 1), (8, .invokevirtual 141, 3), (11, .astore_n 2, 1), (12, .aload_n 0, 1), (13, .iconst 2, 1), (14, .invokevirtual 130, 3), (17, .aload_n 0, 1), (18, .aload_n 2, 1), (19, .aload_n 1, 1), (20, .invokestatic 149, 3), (23, .invokevirtual 119, 3), (26, .ireturn, 1)]
theorem dc_X6_either : dnL cX6_either dl_X6_either = true := by decide +kernel
theorem d_X6_either_0 : dn cX6_either 0 (.aload_n 0) 1 1 := dnAt dc_X6_either 0 rfl rfl
theorem d_X6_either_1 : dn cX6_either 1 (.iconst 0) 1 2 := dnAt dc_X6_either 1 rfl rfl
theorem d_X6_either_2 : dn cX6_either 2 (.invokevirtual 141) 3 5 := dnAt dc_X6_either 2 rfl rfl
theorem d_X6_either_5 : dn cX6_either 5 (.astore_n 1) 1 6 := dnAt dc_X6_either 3 rfl rfl
theorem d_X6_either_6 : dn cX6_either 6 (.aload_n 0) 1 7 := dnAt dc_X6_either 4 rfl rfl
theorem d_X6_either_7 : dn cX6_either 7 (.iconst 1) 1 8 := dnAt dc_X6_either 5 rfl rfl
theorem d_X6_either_8 : dn cX6_either 8 (.invokevirtual 141) 3 11 := dnAt dc_X6_either 6 rfl rfl
theorem d_X6_either_11 : dn cX6_either 11 (.astore_n 2) 1 12 := dnAt dc_X6_either 7 rfl rfl
theorem d_X6_either_12 : dn cX6_either 12 (.aload_n 0) 1 13 := dnAt dc_X6_either 8 rfl rfl
theorem d_X6_either_13 : dn cX6_either 13 (.iconst 2) 1 14 := dnAt dc_X6_either 9 rfl rfl
theorem d_X6_either_14 : dn cX6_either 14 (.invokevirtual 130) 3 17 := dnAt dc_X6_either 10 rfl rfl
theorem d_X6_either_17 : dn cX6_either 17 (.aload_n 0) 1 18 := dnAt dc_X6_either 11 rfl rfl
theorem d_X6_either_18 : dn cX6_either 18 (.aload_n 2) 1 19 := dnAt dc_X6_either 12 rfl rfl
theorem d_X6_either_19 : dn cX6_either 19 (.aload_n 1) 1 20 := dnAt dc_X6_either 13 rfl rfl
theorem d_X6_either_20 : dn cX6_either 20 (.invokestatic 149) 3 23 := dnAt dc_X6_either 14 rfl rfl
theorem d_X6_either_23 : dn cX6_either 23 (.invokevirtual 119) 3 26 := dnAt dc_X6_either 15 rfl rfl
theorem d_X6_either_26 : dn cX6_either 26 (.ireturn) 1 27 := dnAt dc_X6_either 16 rfl rfl
set_option maxHeartbeats 4000000 in
set_option maxRecDepth 100000 in
theorem k_either {l : Launch} {G : eG} {ad : Nat → Nat → Nat} {h : hp} {g : mS} {T : Nat → tC3} {Y : Nat → pA} (hlf : l.stackTraces = false) (hm : co G ad g h) (I : mInv g) (L8 : plk G ad h g T Y) : kX l G ad h yX6_either cX6_either 3 (Option.some Jvm.ClassFile.FieldType.int) { frames := 7, cells := 6, slots := 42, locals := 111 } [.ref (ad 0 0)] (fun v9 g9 h9 => v9 = some (.int (nI (rTwo g))) ∧ cTwo g = 0 ∧ ∃ a, g9 = psh (poS g 2) a ∧ prA G ad h9 a (eiA (Y (mK g 16 - 1 - 1)) (Y (mK g 16 - 1 - 0))) false) (fun E9 g9 => (E9 = "java/lang/IllegalStateException" ∧ cTwo g = 1) ∧ g9 = g) := by
  refine kX.of hlf hm (by decide) (Nat.le_of_ble_eq_true rfl) ?_
  intro x C A TY X
  show VC G x ad h g 0 0 0 [(0, .ref (ad 0 0))] []
  refine c_aload_n C d_X6_either_0 0 rfl ?_
  refine c_iconst C d_X6_either_1 (v := (nI 0)) rfl ?_
  refine k_callVX C X cfr_rf d_X6_either_2 ok_RX6_141 (k := 0) (i' := 0) (fun l h hl hm hf => k_partFromTop (o := 0) hl hm L8.1 (fun j hj => (L8.2 j hj).1.1) (by omega)) rfl rfl rfl rfl (rest := []) rfl rfl (Nat.le_of_ble_eq_true rfl) ⟨⟨by decide, by decide⟩, Nat.le_of_ble_eq_true rfl, Nat.le_of_ble_eq_true rfl⟩ (fun _ _ e => ⟨⟨e.1, by rw [cTwo, if_pos (by have := e.2.1; omega)]⟩, e.2.2⟩) (fun v9 g9 hq1 e9 F1 => ?_)
  obtain ⟨rfl, z1, i1⟩ := e9
  refine c_eq z1 ?_
  have R1 := (L8.2 (mK g 16 - 1 - 0) (by omega)).2
  refine c_base F1 ?_
  show VC G x ad h g 1 6 5 [(0, .ref (ad 0 0))] [.ref (mN g 60 (mK g 16 - 1 - 0) - 1)]
  refine c_astore_n C d_X6_either_5 (lv' := [(1, .ref (mN g 60 (mK g 16 - 1 - 0) - 1)), (0, .ref (ad 0 0))]) (by decide) rfl ?_
  refine c_aload_n C d_X6_either_6 1 rfl ?_
  refine c_iconst C d_X6_either_7 (v := (nI 1)) rfl ?_
  refine k_callVX C X cfr_rf d_X6_either_8 ok_RX6_141 (k := 0) (i' := 0) (fun l h hl hm hf => k_partFromTop (o := 1) hl hm L8.1 (fun j hj => (L8.2 j hj).1.1) (by omega)) rfl rfl rfl rfl (rest := []) rfl rfl (Nat.le_of_ble_eq_true rfl) ⟨⟨by decide, by decide⟩, Nat.le_of_ble_eq_true rfl, Nat.le_of_ble_eq_true rfl⟩ (fun _ _ e => ⟨⟨e.1, by rw [cTwo, if_pos (by have := e.2.1; omega)]⟩, e.2.2⟩) (fun v9 g9 hq2 e9 F2 => ?_)
  obtain ⟨rfl, z2, i2⟩ := e9
  refine c_eq z2 ?_
  have R2 := (L8.2 (mK g 16 - 1 - 1) (by omega)).2
  refine c_base F2 ?_
  show VC G x ad h g 2 12 11 [(1, .ref (mN g 60 (mK g 16 - 1 - 0) - 1)), (0, .ref (ad 0 0))] [.ref (mN g 60 (mK g 16 - 1 - 1) - 1)]
  have P2 := mInv_pair I (show 2 ≤ mK g 16 by omega)
  have N1 := (L8.2 (mK g 16 - 1 - 0) (by omega)).1.2
  have N2 := (L8.2 (mK g 16 - 1 - 1) (by omega)).1.2
  rw [show 12 + (mK g 16 - 1 - 0) = 12 + mK g 16 - 2 + 1 by omega] at N1
  rw [show 12 + (mK g 16 - 1 - 1) = 12 + mK g 16 - 2 by omega] at N2
  have c0 : cTwo g = 0 := by rw [cTwo, if_neg (by omega)]
  refine c_astore_n C d_X6_either_11 (lv' := [(2, .ref (mN g 60 (mK g 16 - 1 - 1) - 1)), (1, .ref (mN g 60 (mK g 16 - 1 - 0) - 1)), (0, .ref (ad 0 0))]) (by decide) rfl ?_
  refine c_aload_n C d_X6_either_12 2 rfl ?_
  refine c_iconst C d_X6_either_13 (v := (nI 2)) rfl ?_
  refine k_callV C d_X6_either_14 ok_RX6_130 (k := 0) (i' := 0) (fun l h hm hf => k_pop hm (L8.1) (by omega)) rfl rfl rfl rfl (rest := []) rfl rfl (Nat.le_of_ble_eq_true rfl) ⟨⟨by decide, by decide⟩, Nat.le_of_ble_eq_true rfl, Nat.le_of_ble_eq_true rfl⟩ (fun v9 g9 hq3 e9 F3 => ?_)
  obtain ⟨rfl, z3⟩ := e9
  refine c_eq z3 ?_
  refine c_base F3 ?_
  show VC G x ad h (poS g 2) 2 12 17 [(2, .ref (mN g 60 (mK g 16 - 1 - 1) - 1)), (1, .ref (mN g 60 (mK g 16 - 1 - 0) - 1)), (0, .ref (ad 0 0))] []
  refine c_aload_n C d_X6_either_17 2 rfl ?_
  refine c_aload_n C d_X6_either_18 0 rfl ?_
  refine c_aload_n C d_X6_either_19 1 rfl ?_
  refine k_callL C d_X6_either_20 ok_RX6_149 (fun l h hm hf => l_either (R2.mv hf).co (R1.mv hf).co (by omega)) (rest := [.ref (ad 0 0)]) rfl rfl (Nat.le_of_ble_eq_true rfl) ⟨⟨by decide, by decide⟩, Nat.le_of_ble_eq_true rfl, Nat.le_of_ble_eq_true rfl⟩ (fun v9 hp4 hq4 L4 M4 e9 F4 l4 w4 c4 => ?_)
  obtain ⟨a4, pt4, pn4, rfl, rfl⟩ := e9
  show VC G x ad hq4 (poS g 2) 5 35 23 [(2, .ref (mN g 60 (mK g 16 - 1 - 1) - 1)), (1, .ref (mN g 60 (mK g 16 - 1 - 0) - 1)), (0, .ref (ad 0 0))] [.ref a4, .ref (ad 0 0)]
  have Q4 := pcl_p M4 w4 c4
  obtain ⟨na4, pt4, pn4, y14, y24, y34, y44, y54⟩ := id Q4
  refine k_callV C d_X6_either_23 ok_RX6_119 (k := 0) (i' := 0) (fun l h hm hf => k_push hm ((by show mK g 16 - 2 < 8; have := L8.1; omega)) (na4) (hf _ _ na4.w y34)) rfl rfl rfl rfl (rest := []) rfl rfl (Nat.le_of_ble_eq_true rfl) ⟨⟨by decide, by decide⟩, Nat.le_of_ble_eq_true rfl, Nat.le_of_ble_eq_true rfl⟩ (fun v9 g9 hq5 e9 F5 => ?_)
  obtain ⟨rfl, z5⟩ := e9
  refine c_eq z5 ?_
  refine c_base F5 ?_
  show VC G x ad hq4 (uK (uN (poS g 2) 60 (mK (poS g 2) 16) (a4 + 1)) 16 (mK (poS g 2) 16 + 1)) 5 35 26 [(2, .ref (mN g 60 (mK g 16 - 1 - 1) - 1)), (1, .ref (mN g 60 (mK g 16 - 1 - 0) - 1)), (0, .ref (ad 0 0))] [.int (nI (mK (poS g 2) 16 + 1))]
  refine c_st (st' := [.int (nI (rTwo g))]) (by rw [rTwo, if_pos c0, show mK g 16 - 1 = mK g 16 - 2 + 1 by omega]; rfl) ?_
  exact k_iret C A (cfr_tr cfr_rf (cfr.le F4 l4)) TY d_X6_either_26 rfl (Nat.le_of_ble_eq_true rfl) (Nat.le_of_ble_eq_true rfl) (fun h9 F9 => ⟨rfl, c0, a4, rfl, prA.mv Q4 F9⟩)
