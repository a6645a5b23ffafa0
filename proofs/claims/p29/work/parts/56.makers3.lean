theorem tw_13 : (Jvm.Cond.initialized "Corpusline$Part") ∈ TB := tb_of 13 (by decide +kernel) rfl
theorem tw_352 : (Jvm.Cond.classLink "Corpusline$Part" (8 : Nat) "Corpusline$Part") ∈ TB := tb_of 352 (by decide +kernel) rfl
theorem tw_353 : (Jvm.Cond.instantiable "Corpusline$Part" (7 : Nat)) ∈ TB := tb_of 353 (by decide +kernel) rfl
theorem tw_354 : (Jvm.Cond.methodLink "Corpusline$Part" (36 : Nat) ({ cls := "Corpusline$Part", name := "<init>", desc := "(I)V" } : Jvm.MethodName)) ∈ TB := tb_of 354 (by decide +kernel) rfl
theorem tw_355 : (Jvm.Cond.instanceMethod ({ cls := "Corpusline$Part", name := "<init>", desc := "(I)V" } : Jvm.MethodName)) ∈ TB := tb_of 355 (by decide +kernel) rfl
theorem tw_356 : (Jvm.Cond.code ({ cls := "Corpusline$Part", name := "<init>", desc := "(I)V" } : Jvm.MethodName) prog_2_method_1_code (2 : Nat) (Option.none : Option Jvm.ClassFile.FieldType)) ∈ TB := tb_of 356 (by decide +kernel) rfl
theorem tw_389 : (Jvm.Cond.methodLink "Corpusline$Part" (39 : Nat) ({ cls := "Corpusline$TokenTest", name := "readSettings", desc := "()I" } : Jvm.MethodName)) ∈ TB := tb_of 389 (by decide +kernel) rfl
theorem tw_390 : (Jvm.Cond.instanceMethod ({ cls := "Corpusline$TokenTest", name := "readSettings", desc := "()I" } : Jvm.MethodName)) ∈ TB := tb_of 390 (by decide +kernel) rfl
theorem tw_391 : (Jvm.Cond.selects "Corpusline$TokenTest" ({ cls := "Corpusline$TokenTest", name := "readSettings", desc := "()I" } : Jvm.MethodName) ({ cls := "Corpusline$TokenTest", name := "readSettings", desc := "()I" } : Jvm.MethodName)) ∈ TB := tb_of 391 (by decide +kernel) rfl
theorem tw_392 : (Jvm.Cond.code ({ cls := "Corpusline$TokenTest", name := "readSettings", desc := "()I" } : Jvm.MethodName) prog_6_method_6_code (3 : Nat) (Option.some Jvm.ClassFile.FieldType.int)) ∈ TB := tb_of 392 (by decide +kernel) rfl
theorem tw_455 : (Jvm.Cond.methodLink "Corpusline$Part" (53 : Nat) ({ cls := "Corpusline$Part", name := "takeTests", desc := "(LCorpusline$Part;I)V" } : Jvm.MethodName)) ∈ TB := tb_of 455 (by decide +kernel) rfl
theorem tw_457 : (Jvm.Cond.instanceMethod ({ cls := "Corpusline$Part", name := "takeTests", desc := "(LCorpusline$Part;I)V" } : Jvm.MethodName)) ∈ TB := tb_of 457 (by decide +kernel) rfl
theorem tw_458 : (Jvm.Cond.code ({ cls := "Corpusline$Part", name := "takeTests", desc := "(LCorpusline$Part;I)V" } : Jvm.MethodName) prog_2_method_8_code (4 : Nat) (Option.none : Option Jvm.ClassFile.FieldType)) ∈ TB := tb_of 458 (by decide +kernel) rfl
theorem tw_462 : (Jvm.Cond.methodLink "Corpusline$Part" (42 : Nat) ({ cls := "Corpusline$Part", name := "ofTestsOf", desc := "(LCorpusline$Part;LCorpusline$Part;)LCorpusline$Part;" } : Jvm.MethodName)) ∈ TB := tb_of 462 (by decide +kernel) rfl
theorem tw_463 : (Jvm.Cond.static ({ cls := "Corpusline$Part", name := "ofTestsOf", desc := "(LCorpusline$Part;LCorpusline$Part;)LCorpusline$Part;" } : Jvm.MethodName)) ∈ TB := tb_of 463 (by decide +kernel) rfl
theorem tw_464 : (Jvm.Cond.code ({ cls := "Corpusline$Part", name := "ofTestsOf", desc := "(LCorpusline$Part;LCorpusline$Part;)LCorpusline$Part;" } : Jvm.MethodName) prog_2_method_7_code (3 : Nat) (Option.some (Jvm.ClassFile.FieldType.object "Corpusline$Part"))) ∈ TB := tb_of 464 (by decide +kernel) rfl
theorem ts_9 : Cond.selects "Corpusline$Part" ({ cls := "Corpusline$Part", name := "takeTests", desc := "(LCorpusline$Part;I)V" } : MethodName) ({ cls := "Corpusline$Part", name := "takeTests", desc := "(LCorpusline$Part;I)V" } : MethodName) ∈ TB := tb_sel 9 (by decide +kernel) rfl
theorem fd_RX0_7 : fdOk RX0 7 0 2 := ⟨_, _, _, rfl, by decide, cw_0, tw_365, rfl⟩
theorem fd_RX0_13 : fdOk RX0 13 0 3 := ⟨_, _, _, rfl, by decide, cw_0, tw_367, rfl⟩
theorem fd_RX0_16 : fdOk RX0 16 0 4 := ⟨_, _, _, rfl, by decide, cw_0, tw_369, rfl⟩
theorem ok_RX0_36 : okI RX0 36 yX0_init cX0_init 2 1 := ⟨tw_354, tw_355, rfl, tw_13, tw_356, ⟨by decide, by decide, by decide +kernel⟩⟩
theorem ok_RX0_42 : okS RX0 42 yX0_ofTestsOf cX0_ofTestsOf 3 (Option.some (Jvm.ClassFile.FieldType.object "Corpusline$Part")) 2 := ⟨tw_462, tw_463, tw_13, tw_464, ⟨by decide, by decide, by decide +kernel⟩⟩
theorem ok_RX0_39 : okV RX0 39 yX4_readSettings cX4_readSettings 3 (Option.some Jvm.ClassFile.FieldType.int) 0 := ⟨tw_389, tw_390, tw_391, tw_12, tw_392, ⟨by decide, by decide, by decide +kernel⟩⟩
theorem ok_RX0_53 : okV RX0 53 yX0_takeTests cX0_takeTests 4 (Option.none : Option Jvm.ClassFile.FieldType) 2 := ⟨tw_455, tw_457, ts_9, tw_13, tw_458, ⟨by decide, by decide, by decide +kernel⟩⟩
theorem nw_RX0_8 : nwOk RX0 8 0 [.null, .null, .int (nI 0), .int (nI 0), .int (bI false), .int (bI false), .int (nI 0)] 7 := ⟨_, _, tyX0, rfl, cw_0, tyX0_ok, tw_352, tw_353, tw_13, by decide +kernel⟩
theorem va_1 {t : Nat} : va_up (fun _ => none) 0 (some t) = fun j => if j < 1 then some ((fun _ => t) j) else none := by
  funext j; unfold va_up
  by_cases c : j = 0
  · rw [if_pos c, if_pos (by omega)]
  · rw [if_neg c, if_neg (by omega)]
/-- what stands behind one another -/
def tsN (m1 m2 : Nat) (x1 x2 : Nat → Nat) (j : Nat) : Nat := if j < m1 then x1 j else if j < m1 + m2 then x2 (j - m1) * 2 ^ m1 else 0
def tsT (m1 : Nat) (t1 t2 : Nat → Nat) (j : Nat) : Nat := if j < m1 then t1 j else t2 (j - m1)
def cutN (m : Nat) (x : Nat → Nat) (j : Nat) : Nat := if j < m then x j else 0
theorem inX_two {m1 m2 : Nat} {x1 x2 : Nat → Nat} : inX (inX (fun _ => 0) x1 0 m1) x2 m1 m2 = tsN m1 m2 x1 x2 := by
  funext j; unfold inX tsN
  by_cases c : j < m1
  · rw [if_neg (by omega), if_pos (by omega), if_pos c, Nat.sub_zero, Nat.pow_zero, Nat.mul_one]
  · rw [if_neg c]
    by_cases d : j < m1 + m2
    · rw [if_pos ⟨by omega, d⟩, if_pos d]
    · rw [if_neg (by omega), if_neg (by omega), if_neg d]
theorem inF_two {m1 m2 : Nat} {t1 t2 : Nat → Nat} : inF (inF (fun _ => none) t1 0 m1) t2 m1 m2 = fun j => if j < m1 + m2 then some (tsT m1 t1 t2 j) else none := by
  funext j; unfold inF tsT
  by_cases c : j < m1
  · rw [if_neg (by omega), if_pos (by omega), if_pos (by omega), if_pos c, Nat.sub_zero]
  · by_cases d : j < m1 + m2
    · rw [if_pos ⟨by omega, d⟩, if_pos d, if_neg c]
    · rw [if_neg (by omega), if_neg (by omega), if_neg d]
theorem inX_one {m : Nat} {x : Nat → Nat} : inX (fun _ => 0) x 0 m = cutN m x := by
  funext j; unfold inX cutN
  by_cases c : j < m
  · rw [if_pos (by omega), if_pos c, Nat.sub_zero, Nat.pow_zero, Nat.mul_one]
  · rw [if_neg (by omega), if_neg c]
theorem inF_one {m : Nat} {t : Nat → Nat} : inF (fun _ => none) t 0 m = fun j => if j < m then some (t j) else none := by
  funext j; unfold inF
  by_cases c : j < m
  · rw [if_pos (by omega), if_pos c, Nat.sub_zero]
  · rw [if_neg (by omega), if_neg c]
def chX (m1 m2 : Nat) (x1 x2 : Nat → Nat) (l1 f2 k j : Nat) : Nat := if j < k ∧ l1 / 2 ^ j % 2 = 1 then tsN m1 m2 x1 x2 j ||| f2 * 2 ^ m1 else tsN m1 m2 x1 x2 j
theorem chX_0 {m1 m2 l1 f2 : Nat} {x1 x2 : Nat → Nat} : tsN m1 m2 x1 x2 = chX m1 m2 x1 x2 l1 f2 0 := by
  funext j; unfold chX; rw [if_neg (by omega)]
theorem chX_n {m1 m2 l1 f2 k : Nat} {x1 x2 : Nat → Nat} (h : ¬ l1 / 2 ^ k % 2 = 1) : chX m1 m2 x1 x2 l1 f2 k = chX m1 m2 x1 x2 l1 f2 (k + 1) := by
  funext j; unfold chX
  by_cases c : j < k ∧ l1 / 2 ^ j % 2 = 1
  · rw [if_pos c, if_pos ⟨by omega, c.2⟩]
  · rw [if_neg c, if_neg (fun z => by
      by_cases e : j = k
      · subst e; exact h z.2
      · exact c ⟨by omega, z.2⟩)]
theorem chX_s {m1 m2 l1 f2 k : Nat} {x1 x2 : Nat → Nat} (h : l1 / 2 ^ k % 2 = 1) : upd (fun i => nI (chX m1 m2 x1 x2 l1 f2 k i)) k (nI (tsN m1 m2 x1 x2 k ||| f2 * 2 ^ m1)) = fun i => nI (chX m1 m2 x1 x2 l1 f2 (k + 1) i) := updI_of (fun j => by
  unfold chX
  by_cases e : j = k
  · rw [if_pos e, e, if_pos ⟨by omega, h⟩]
  · rw [if_neg e]
    by_cases c : j < k ∧ l1 / 2 ^ j % 2 = 1
    · rw [if_pos c, if_pos ⟨by omega, c.2⟩]
    · rw [if_neg c, if_neg (fun z => c ⟨by omega, z.2⟩)])
theorem chX_k {m1 m2 l1 f2 k : Nat} {x1 x2 : Nat → Nat} : chX m1 m2 x1 x2 l1 f2 k k = tsN m1 m2 x1 x2 k := by
  unfold chX; rw [if_neg (by omega)]
def dl_X0_ofTest : List (Nat × Instr × Nat) := [(0, .new 8, 3), (3, .dup, 1), (4, .iconst 1, 1), (5, .invokespecial 36, 3), (8, .astore_n 1, 1), (9, .aload_n 1, 1), (10, .getfield 28, 3), (13, .iconst 0, 1), (14, .aload_n 0, 1), (15, .aastore, 1), (16, .aload_n 1, 1), (17, .iconst 1, 1), (18, .putfield 7, 3), (21, .aload_n 1, 1), (22, .iconst 1, 1), (23, .putfield 13, 3), (26, .aload_n 1, 1), (27, .iconst 1, 1), (28, .putfield 20, 3), (31, .aload_n 1, 1), (32, .aload_n 0, 1), (33, .invokevirtual 39, 3), (36, .putfield 23, 3), (39, .aload_n 1, 1), (40, .areturn, 1)]
theorem dc_X0_ofTest : dnL cX0_ofTest dl_X0_ofTest = true := by decide +kernel
theorem d_X0_ofTest_0 : dn cX0_ofTest 0 (.new 8) 3 3 := dnAt dc_X0_ofTest 0 rfl rfl
theorem d_X0_ofTest_3 : dn cX0_ofTest 3 (.dup) 1 4 := dnAt dc_X0_ofTest 1 rfl rfl
theorem d_X0_ofTest_4 : dn cX0_ofTest 4 (.iconst 1) 1 5 := dnAt dc_X0_ofTest 2 rfl rfl
theorem d_X0_ofTest_5 : dn cX0_ofTest 5 (.invokespecial 36) 3 8 := dnAt dc_X0_ofTest 3 rfl rfl
theorem d_X0_ofTest_8 : dn cX0_ofTest 8 (.astore_n 1) 1 9 := dnAt dc_X0_ofTest 4 rfl rfl
theorem d_X0_ofTest_9 : dn cX0_ofTest 9 (.aload_n 1) 1 10 := dnAt dc_X0_ofTest 5 rfl rfl
theorem d_X0_ofTest_10 : dn cX0_ofTest 10 (.getfield 28) 3 13 := dnAt dc_X0_ofTest 6 rfl rfl
theorem d_X0_ofTest_13 : dn cX0_ofTest 13 (.iconst 0) 1 14 := dnAt dc_X0_ofTest 7 rfl rfl
theorem d_X0_ofTest_14 : dn cX0_ofTest 14 (.aload_n 0) 1 15 := dnAt dc_X0_ofTest 8 rfl rfl
theorem d_X0_ofTest_15 : dn cX0_ofTest 15 (.aastore) 1 16 := dnAt dc_X0_ofTest 9 rfl rfl
theorem d_X0_ofTest_16 : dn cX0_ofTest 16 (.aload_n 1) 1 17 := dnAt dc_X0_ofTest 10 rfl rfl
theorem d_X0_ofTest_17 : dn cX0_ofTest 17 (.iconst 1) 1 18 := dnAt dc_X0_ofTest 11 rfl rfl
theorem d_X0_ofTest_18 : dn cX0_ofTest 18 (.putfield 7) 3 21 := dnAt dc_X0_ofTest 12 rfl rfl
theorem d_X0_ofTest_21 : dn cX0_ofTest 21 (.aload_n 1) 1 22 := dnAt dc_X0_ofTest 13 rfl rfl
theorem d_X0_ofTest_22 : dn cX0_ofTest 22 (.iconst 1) 1 23 := dnAt dc_X0_ofTest 14 rfl rfl
theorem d_X0_ofTest_23 : dn cX0_ofTest 23 (.putfield 13) 3 26 := dnAt dc_X0_ofTest 15 rfl rfl
theorem d_X0_ofTest_26 : dn cX0_ofTest 26 (.aload_n 1) 1 27 := dnAt dc_X0_ofTest 16 rfl rfl
theorem d_X0_ofTest_27 : dn cX0_ofTest 27 (.iconst 1) 1 28 := dnAt dc_X0_ofTest 17 rfl rfl
theorem d_X0_ofTest_28 : dn cX0_ofTest 28 (.putfield 20) 3 31 := dnAt dc_X0_ofTest 18 rfl rfl
theorem d_X0_ofTest_31 : dn cX0_ofTest 31 (.aload_n 1) 1 32 := dnAt dc_X0_ofTest 19 rfl rfl
theorem d_X0_ofTest_32 : dn cX0_ofTest 32 (.aload_n 0) 1 33 := dnAt dc_X0_ofTest 20 rfl rfl
theorem d_X0_ofTest_33 : dn cX0_ofTest 33 (.invokevirtual 39) 3 36 := dnAt dc_X0_ofTest 21 rfl rfl
theorem d_X0_ofTest_36 : dn cX0_ofTest 36 (.putfield 23) 3 39 := dnAt dc_X0_ofTest 22 rfl rfl
theorem d_X0_ofTest_39 : dn cX0_ofTest 39 (.aload_n 1) 1 40 := dnAt dc_X0_ofTest 23 rfl rfl
theorem d_X0_ofTest_40 : dn cX0_ofTest 40 (.areturn) 1 41 := dnAt dc_X0_ofTest 24 rfl rfl
set_option maxHeartbeats 4000000 in
set_option maxRecDepth 100000 in
theorem l_ofTest {l : Launch} {G : eG} {h0 : hp} {o1 p1 s1 b1 : Nat} (h1 : h0 o1 = some (oC 3 [.ref p1, .int (nI s1), .int (nI b1)])) (hs : s1 < 512) : kL l G h0 [] yX0_ofTest cX0_ofTest 2 (Option.some (Jvm.ClassFile.FieldType.object "Corpusline$Part")) { frames := 2, cells := 3, slots := 23, locals := 42 } [.ref o1] (fun v9 L9 => ∃ a pt pn, v9 = some (.ref a) ∧ L9 = pcl G a pt pn 1 1 1 (rsF s1 9) false true (fun _ => 0) (fun _ => o1)) := by
  refine kL.of (by decide) (Nat.le_of_ble_eq_true rfl) ?_
  intro x C A TY CI
  show VL G x h0 [] 0 0 0 [(0, .ref o1)] []
  refine w_new C d_X0_ofTest_0 nw_RX0_8 (Nat.le_of_ble_eq_true rfl) (Nat.le_of_ble_eq_true rfl) (fun a => ?_)
  show VL G x h0 [(a, oC 0 [.null, .null, .int (nI 0), .int (nI 0), .int (bI false), .int (bI false), .int (nI 0)])] 1 7 3 [(0, .ref o1)] [.ref a]
  refine w_dup C d_X0_ofTest_3 rfl ?_
  refine w_iconst C d_X0_ofTest_4 (v := (nI 1)) rfl ?_
  refine w_callI C d_X0_ofTest_5 ok_RX0_36 (L := [(a, oC 0 [.null, .null, .int (nI 0), .int (nI 0), .int (bI false), .int (bI false), .int (nI 0)])]) (M := []) rfl (fun l h9 m9 c9 => l_X0init (by decide)) (rest := [.ref a]) rfl rfl (Nat.le_of_ble_eq_true rfl) ⟨⟨by decide, by decide⟩, Nat.le_of_ble_eq_true rfl, Nat.le_of_ble_eq_true rfl⟩ (fun v9 L9 e9 => ?_)
  obtain ⟨rfl, pt1, pn1, rfl⟩ := e9
  show VL G x h0 [(pn1, aI G 1 (fun i => nI ((fun _ => 0) i))), (pt1, aR G 6 1 (fun _ => none)), (a, oC 0 [.ref pt1, .ref pn1, .int (nI 0), .int (nI 0), .int (bI false), .int (bI false), .int (nI 0)])] 3 23 8 [(0, .ref o1)] [.ref a]
  refine w_astore_n C d_X0_ofTest_8 (lv' := [(1, .ref a), (0, .ref o1)]) (by decide) rfl ?_
  refine w_aload_n C d_X0_ofTest_9 0 rfl ?_
  refine w_get C 2 d_X0_ofTest_10 fd_RX0_28 rfl (v := .ref pt1) rfl ?_
  refine w_iconst C d_X0_ofTest_13 (v := (nI 0)) rfl ?_
  refine w_aload_n C d_X0_ofTest_14 1 rfl ?_
  refine w_aast C 1 d_X0_ofTest_15 rfl rfl (h1) rfl (by omega) (by omega) (L' := [(pn1, aI G 1 (fun i => nI ((fun _ => 0) i))), (pt1, aR G 6 1 (va_up (fun _ => none) 0 (some o1))), (a, oC 0 [.ref pt1, .ref pn1, .int (nI 0), .int (nI 0), .int (bI false), .int (bI false), .int (nI 0)])]) rfl ?_
  refine w_aload_n C d_X0_ofTest_16 0 rfl ?_
  refine w_iconst C d_X0_ofTest_17 (v := (nI 1)) rfl ?_
  refine w_put C 2 d_X0_ofTest_18 pf_RX0_7 rfl rfl rfl (Nat.le_of_ble_eq_true rfl) (fs' := [.ref pt1, .ref pn1, .int (nI 1), .int (nI 0), .int (bI false), .int (bI false), .int (nI 0)]) rfl (L' := [(pn1, aI G 1 (fun i => nI ((fun _ => 0) i))), (pt1, aR G 6 1 (va_up (fun _ => none) 0 (some o1))), (a, oC 0 [.ref pt1, .ref pn1, .int (nI 1), .int (nI 0), .int (bI false), .int (bI false), .int (nI 0)])]) rfl ?_
  refine w_aload_n C d_X0_ofTest_21 0 rfl ?_
  refine w_iconst C d_X0_ofTest_22 (v := (nI 1)) rfl ?_
  refine w_put C 2 d_X0_ofTest_23 pf_RX0_13 rfl rfl rfl (Nat.le_of_ble_eq_true rfl) (fs' := [.ref pt1, .ref pn1, .int (nI 1), .int (nI 1), .int (bI false), .int (bI false), .int (nI 0)]) rfl (L' := [(pn1, aI G 1 (fun i => nI ((fun _ => 0) i))), (pt1, aR G 6 1 (va_up (fun _ => none) 0 (some o1))), (a, oC 0 [.ref pt1, .ref pn1, .int (nI 1), .int (nI 1), .int (bI false), .int (bI false), .int (nI 0)])]) rfl ?_
  refine w_aload_n C d_X0_ofTest_26 0 rfl ?_
  refine w_iconst C d_X0_ofTest_27 (v := (nI 1)) rfl ?_
  refine w_put C 2 d_X0_ofTest_28 pf_RX0_20 rfl rfl rfl (Nat.le_of_ble_eq_true rfl) (fs' := [.ref pt1, .ref pn1, .int (nI 1), .int (nI 1), .int (bI false), .int (bI true), .int (nI 0)]) rfl (L' := [(pn1, aI G 1 (fun i => nI ((fun _ => 0) i))), (pt1, aR G 6 1 (va_up (fun _ => none) 0 (some o1))), (a, oC 0 [.ref pt1, .ref pn1, .int (nI 1), .int (nI 1), .int (bI false), .int (bI true), .int (nI 0)])]) rfl ?_
  refine w_aload_n C d_X0_ofTest_31 0 rfl ?_
  refine w_aload_n C d_X0_ofTest_32 1 rfl ?_
  refine w_callV C d_X0_ofTest_33 ok_RX0_39 (L := []) (M := [(pn1, aI G 1 (fun i => nI ((fun _ => 0) i))), (pt1, aR G 6 1 (va_up (fun _ => none) 0 (some o1))), (a, oC 0 [.ref pt1, .ref pn1, .int (nI 1), .int (nI 1), .int (bI false), .int (bI true), .int (nI 0)])]) rfl (fun l h9 m9 c9 => l_readSettings (m9 _ _ h1) hs) (fun h a9 b9 => a9 _ _ h1) rfl rfl (rest := [.ref a]) rfl rfl (Nat.le_of_ble_eq_true rfl) ⟨⟨by decide, by decide⟩, Nat.le_of_ble_eq_true rfl, Nat.le_of_ble_eq_true rfl⟩ (fun v9 L9 e9 => ?_)
  obtain ⟨rfl, rfl⟩ := e9
  show VL G x h0 [(pn1, aI G 1 (fun i => nI ((fun _ => 0) i))), (pt1, aR G 6 1 (va_up (fun _ => none) 0 (some o1))), (a, oC 0 [.ref pt1, .ref pn1, .int (nI 1), .int (nI 1), .int (bI false), .int (bI true), .int (nI 0)])] 3 23 36 [(1, .ref a), (0, .ref o1)] [.int (nI (rsF s1 9)), .ref a]
  refine w_put C 2 d_X0_ofTest_36 pf_RX0_23 rfl rfl rfl (Nat.le_of_ble_eq_true rfl) (fs' := [.ref pt1, .ref pn1, .int (nI 1), .int (nI 1), .int (bI false), .int (bI true), .int (nI (rsF s1 9))]) rfl (L' := [(pn1, aI G 1 (fun i => nI ((fun _ => 0) i))), (pt1, aR G 6 1 (va_up (fun _ => none) 0 (some o1))), (a, oC 0 [.ref pt1, .ref pn1, .int (nI 1), .int (nI 1), .int (bI false), .int (bI true), .int (nI (rsF s1 9))])]) rfl ?_
  refine w_aload_n C d_X0_ofTest_39 0 rfl ?_
  exact w_aret C A TY d_X0_ofTest_40 (Nat.le_of_ble_eq_true rfl) (Nat.le_of_ble_eq_true rfl) (⟨a, pt1, pn1, rfl, by unfold pcl; rw [← va_1]⟩)
def dl_X0_ofTestsOf : List (Nat × Instr × Nat) := [(0, .new 8, 3), (3, .dup, 1), (4, .aload_n 0, 1), (5, .getfield 28, 3), (8, .arraylength, 1), (9, .aload_n 1, 1), (10, .getfield 28, 3), (13, .arraylength, 1), (14, .iadd, 1), (15, .invokespecial 36, 3), (18, .astore_n 2, 1), (19, .aload_n 2, 1), (20, .aload_n 0, 1), (21, .iconst 0, 1), (22, .invokevirtual 53, 3), (25, .aload_n 2, 1), (26, .aload_n 1, 1), (27, .aload_n 0, 1), (28, .getfield 28, 3), (31, .arraylength, 1), (32, .invokevirtual 53, 3), (35, .aload_n 2, 1), (36, .areturn, 1)]
theorem dc_X0_ofTestsOf : dnL cX0_ofTestsOf dl_X0_ofTestsOf = true := by decide +kernel
theorem d_X0_ofTestsOf_0 : dn cX0_ofTestsOf 0 (.new 8) 3 3 := dnAt dc_X0_ofTestsOf 0 rfl rfl
theorem d_X0_ofTestsOf_3 : dn cX0_ofTestsOf 3 (.dup) 1 4 := dnAt dc_X0_ofTestsOf 1 rfl rfl
theorem d_X0_ofTestsOf_4 : dn cX0_ofTestsOf 4 (.aload_n 0) 1 5 := dnAt dc_X0_ofTestsOf 2 rfl rfl
theorem d_X0_ofTestsOf_5 : dn cX0_ofTestsOf 5 (.getfield 28) 3 8 := dnAt dc_X0_ofTestsOf 3 rfl rfl
theorem d_X0_ofTestsOf_8 : dn cX0_ofTestsOf 8 (.arraylength) 1 9 := dnAt dc_X0_ofTestsOf 4 rfl rfl
theorem d_X0_ofTestsOf_9 : dn cX0_ofTestsOf 9 (.aload_n 1) 1 10 := dnAt dc_X0_ofTestsOf 5 rfl rfl
theorem d_X0_ofTestsOf_10 : dn cX0_ofTestsOf 10 (.getfield 28) 3 13 := dnAt dc_X0_ofTestsOf 6 rfl rfl
theorem d_X0_ofTestsOf_13 : dn cX0_ofTestsOf 13 (.arraylength) 1 14 := dnAt dc_X0_ofTestsOf 7 rfl rfl
theorem d_X0_ofTestsOf_14 : dn cX0_ofTestsOf 14 (.iadd) 1 15 := dnAt dc_X0_ofTestsOf 8 rfl rfl
theorem d_X0_ofTestsOf_15 : dn cX0_ofTestsOf 15 (.invokespecial 36) 3 18 := dnAt dc_X0_ofTestsOf 9 rfl rfl
theorem d_X0_ofTestsOf_18 : dn cX0_ofTestsOf 18 (.astore_n 2) 1 19 := dnAt dc_X0_ofTestsOf 10 rfl rfl
theorem d_X0_ofTestsOf_19 : dn cX0_ofTestsOf 19 (.aload_n 2) 1 20 := dnAt dc_X0_ofTestsOf 11 rfl rfl
theorem d_X0_ofTestsOf_20 : dn cX0_ofTestsOf 20 (.aload_n 0) 1 21 := dnAt dc_X0_ofTestsOf 12 rfl rfl
theorem d_X0_ofTestsOf_21 : dn cX0_ofTestsOf 21 (.iconst 0) 1 22 := dnAt dc_X0_ofTestsOf 13 rfl rfl
theorem d_X0_ofTestsOf_22 : dn cX0_ofTestsOf 22 (.invokevirtual 53) 3 25 := dnAt dc_X0_ofTestsOf 14 rfl rfl
theorem d_X0_ofTestsOf_25 : dn cX0_ofTestsOf 25 (.aload_n 2) 1 26 := dnAt dc_X0_ofTestsOf 15 rfl rfl
theorem d_X0_ofTestsOf_26 : dn cX0_ofTestsOf 26 (.aload_n 1) 1 27 := dnAt dc_X0_ofTestsOf 16 rfl rfl
theorem d_X0_ofTestsOf_27 : dn cX0_ofTestsOf 27 (.aload_n 0) 1 28 := dnAt dc_X0_ofTestsOf 17 rfl rfl
theorem d_X0_ofTestsOf_28 : dn cX0_ofTestsOf 28 (.getfield 28) 3 31 := dnAt dc_X0_ofTestsOf 18 rfl rfl
theorem d_X0_ofTestsOf_31 : dn cX0_ofTestsOf 31 (.arraylength) 1 32 := dnAt dc_X0_ofTestsOf 19 rfl rfl
theorem d_X0_ofTestsOf_32 : dn cX0_ofTestsOf 32 (.invokevirtual 53) 3 35 := dnAt dc_X0_ofTestsOf 20 rfl rfl
theorem d_X0_ofTestsOf_35 : dn cX0_ofTestsOf 35 (.aload_n 2) 1 36 := dnAt dc_X0_ofTestsOf 21 rfl rfl
theorem d_X0_ofTestsOf_36 : dn cX0_ofTestsOf 36 (.areturn) 1 37 := dnAt dc_X0_ofTestsOf 22 rfl rfl
set_option maxHeartbeats 4000000 in
set_option maxRecDepth 100000 in
theorem l_ofTestsOf {l : Launch} {G : eG} {h0 : hp} {o1 t1 n1 m1 f1 l1 r1 : Nat} {y1 i1 : Bool} {nx1 tt1 : Nat → Nat} {o2 t2 n2 m2 f2 l2 r2 : Nat} {y2 i2 : Bool} {nx2 tt2 : Nat → Nat} (g1 : h0 o1 = some (oC 0 [.ref t1, .ref n1, .int (nI f1), .int (nI l1), .int (bI y1), .int (bI i1), .int (nI r1)])) (g2 : h0 t1 = some (aR G 6 m1 (fun j => if j < m1 then some (tt1 j) else none))) (g3 : h0 n1 = some (aI G m1 (fun j => nI (nx1 j)))) (g4 : ∀ j, j < m1 → ∃ fs, h0 (tt1 j) = some (oC 3 fs)) (k1 : h0 o2 = some (oC 0 [.ref t2, .ref n2, .int (nI f2), .int (nI l2), .int (bI y2), .int (bI i2), .int (nI r2)])) (k2 : h0 t2 = some (aR G 6 m2 (fun j => if j < m2 then some (tt2 j) else none))) (k3 : h0 n2 = some (aI G m2 (fun j => nI (nx2 j)))) (k4 : ∀ j, j < m2 → ∃ fs, h0 (tt2 j) = some (oC 3 fs)) (hM : m1 + m2 ≤ 8) : kL l G h0 [] yX0_ofTestsOf cX0_ofTestsOf 3 (Option.some (Jvm.ClassFile.FieldType.object "Corpusline$Part")) { frames := 2, cells := 3, slots := 23, locals := 41 } [.ref o1, .ref o2] (fun v9 L9 => ∃ a pt pn, v9 = some (.ref a) ∧ L9 = pcl G a pt pn (m1 + m2) 0 0 (r1 ||| r2) false false (tsN m1 m2 nx1 nx2) (tsT m1 tt1 tt2)) := by
  refine kL.of (by decide) (Nat.le_of_ble_eq_true rfl) ?_
  intro x C A TY CI
  show VL G x h0 [] 0 0 0 [(0, .ref o1), (1, .ref o2)] []
  refine w_new C d_X0_ofTestsOf_0 nw_RX0_8 (Nat.le_of_ble_eq_true rfl) (Nat.le_of_ble_eq_true rfl) (fun a => ?_)
  show VL G x h0 [(a, oC 0 [.null, .null, .int (nI 0), .int (nI 0), .int (bI false), .int (bI false), .int (nI 0)])] 1 7 3 [(0, .ref o1), (1, .ref o2)] [.ref a]
  refine w_dup C d_X0_ofTestsOf_3 rfl ?_
  refine w_aload_n C d_X0_ofTestsOf_4 0 rfl ?_
  refine w_getN C d_X0_ofTestsOf_5 fd_RX0_28 (g1) (v := .ref t1) rfl ?_
  refine w_alenN C d_X0_ofTestsOf_8 rfl (g2) ?_
  refine w_aload_n C d_X0_ofTestsOf_9 1 rfl ?_
  refine w_getN C d_X0_ofTestsOf_10 fd_RX0_28 (k1) (v := .ref t2) rfl ?_
  refine w_alenN C d_X0_ofTestsOf_13 rfl (k2) ?_
  refine wn_iadd C d_X0_ofTestsOf_14 ?_
  refine w_callI C d_X0_ofTestsOf_15 ok_RX0_36 (L := [(a, oC 0 [.null, .null, .int (nI 0), .int (nI 0), .int (bI false), .int (bI false), .int (nI 0)])]) (M := []) rfl (fun l h9 m9 c9 => l_X0init (hM)) (rest := [.ref a]) rfl rfl (Nat.le_of_ble_eq_true rfl) ⟨⟨by decide, by decide⟩, Nat.le_of_ble_eq_true rfl, Nat.le_of_ble_eq_true rfl⟩ (fun v9 L9 e9 => ?_)
  obtain ⟨rfl, pt1, pn1, rfl⟩ := e9
  show VL G x h0 [(pn1, aI G (m1 + m2) (fun i => nI ((fun _ => 0) i))), (pt1, aR G 6 (m1 + m2) (fun _ => none)), (a, oC 0 [.ref pt1, .ref pn1, .int (nI 0), .int (nI 0), .int (bI false), .int (bI false), .int (nI 0)])] 3 23 18 [(0, .ref o1), (1, .ref o2)] [.ref a]
  refine w_astore_n C d_X0_ofTestsOf_18 (lv' := [(2, .ref a), (0, .ref o1), (1, .ref o2)]) (by decide) rfl ?_
  refine w_aload_n C d_X0_ofTestsOf_19 0 rfl ?_
  refine w_aload_n C d_X0_ofTestsOf_20 1 rfl ?_
  refine w_iconst C d_X0_ofTestsOf_21 (v := (nI 0)) rfl ?_
  refine w_callV C d_X0_ofTestsOf_22 ok_RX0_53 (L := [(pn1, aI G (m1 + m2) (fun i => nI ((fun _ => 0) i))), (pt1, aR G 6 (m1 + m2) (fun _ => none)), (a, oC 0 [.ref pt1, .ref pn1, .int (nI 0), .int (nI 0), .int (bI false), .int (bI false), .int (nI 0)])]) (M := []) rfl (fun l h9 m9 c9 => l_takeTests (F := fun _ => none) (X := fun _ => 0) (m9 _ _ g1) (m9 _ _ g2) (m9 _ _ g3) (fun j hj => (fun ⟨fs, q⟩ => ⟨fs, m9 _ _ q⟩) (g4 j hj)) (by omega) (by omega)) (fun h a9 b9 => b9.at 2 rfl) rfl rfl (rest := []) rfl rfl (Nat.le_of_ble_eq_true rfl) ⟨⟨by decide, by decide⟩, Nat.le_of_ble_eq_true rfl, Nat.le_of_ble_eq_true rfl⟩ (fun v9 L9 e9 => ?_)
  obtain ⟨rfl, rfl⟩ := e9
  show VL G x h0 [(pn1, aI G (m1 + m2) (fun i => nI (inX (fun _ => 0) nx1 0 m1 i))), (pt1, aR G 6 (m1 + m2) (inF (fun _ => none) tt1 0 m1)), (a, oC 0 [.ref pt1, .ref pn1, .int (nI 0), .int (nI 0), .int (bI false), .int (bI false), .int (nI (0 ||| r1))])] 3 23 25 [(2, .ref a), (0, .ref o1), (1, .ref o2)] []
  refine w_aload_n C d_X0_ofTestsOf_25 0 rfl ?_
  refine w_aload_n C d_X0_ofTestsOf_26 2 rfl ?_
  refine w_aload_n C d_X0_ofTestsOf_27 1 rfl ?_
  refine w_getN C d_X0_ofTestsOf_28 fd_RX0_28 (g1) (v := .ref t1) rfl ?_
  refine w_alenN C d_X0_ofTestsOf_31 rfl (g2) ?_
  refine w_callV C d_X0_ofTestsOf_32 ok_RX0_53 (L := [(pn1, aI G (m1 + m2) (fun i => nI (inX (fun _ => 0) nx1 0 m1 i))), (pt1, aR G 6 (m1 + m2) (inF (fun _ => none) tt1 0 m1)), (a, oC 0 [.ref pt1, .ref pn1, .int (nI 0), .int (nI 0), .int (bI false), .int (bI false), .int (nI (0 ||| r1))])]) (M := []) rfl (fun l h9 m9 c9 => l_takeTests (F := inF (fun _ => none) tt1 0 m1) (X := inX (fun _ => 0) nx1 0 m1) (m9 _ _ k1) (m9 _ _ k2) (m9 _ _ k3) (fun j hj => (fun ⟨fs, q⟩ => ⟨fs, m9 _ _ q⟩) (k4 j hj)) (by omega) (by omega)) (fun h a9 b9 => b9.at 2 rfl) rfl rfl (rest := []) rfl rfl (Nat.le_of_ble_eq_true rfl) ⟨⟨by decide, by decide⟩, Nat.le_of_ble_eq_true rfl, Nat.le_of_ble_eq_true rfl⟩ (fun v9 L9 e9 => ?_)
  obtain ⟨rfl, rfl⟩ := e9
  show VL G x h0 [(pn1, aI G (m1 + m2) (fun i => nI (inX (inX (fun _ => 0) nx1 0 m1) nx2 m1 m2 i))), (pt1, aR G 6 (m1 + m2) (inF (inF (fun _ => none) tt1 0 m1) tt2 m1 m2)), (a, oC 0 [.ref pt1, .ref pn1, .int (nI 0), .int (nI 0), .int (bI false), .int (bI false), .int (nI (0 ||| r1 ||| r2))])] 3 23 35 [(2, .ref a), (0, .ref o1), (1, .ref o2)] []
  refine w_aload_n C d_X0_ofTestsOf_35 0 rfl ?_
  exact w_aret C A TY d_X0_ofTestsOf_36 (Nat.le_of_ble_eq_true rfl) (Nat.le_of_ble_eq_true rfl) (⟨a, pt1, pn1, rfl, by rw [inX_two, inF_two, Nat.zero_or]; rfl⟩)
def dl_X0_ofTimes : List (Nat × Instr × Nat) := [(0, .new 8, 3), (3, .dup, 1), (4, .aload_n 0, 1), (5, .getfield 28, 3), (8, .arraylength, 1), (9, .invokespecial 36, 3), (12, .astore_n 2, 1), (13, .aload_n 2, 1), (14, .aload_n 0, 1), (15, .iconst 0, 1), (16, .invokevirtual 53, 3), (19, .aload_n 2, 1), (20, .aload_n 0, 1), (21, .getfield 7, 3), (24, .putfield 7, 3), (27, .aload_n 2, 1), (28, .aload_n 0, 1), (29, .getfield 13, 3), (32, .putfield 13, 3), (35, .aload_n 2, 1), (36, .aload_n 0, 1), (37, .getfield 16, 3), (40, .ifCond .ne 7, 3), (43, .iload_n 1, 1), (44, .ifCond .eq 7, 3), (47, .iconst 1, 1), (48, .goto 4, 3), (51, .iconst 0, 1), (52, .putfield 16, 3), (55, .aload_n 2, 1), (56, .areturn, 1)]
theorem dc_X0_ofTimes : dnL cX0_ofTimes dl_X0_ofTimes = true := by decide +kernel
theorem d_X0_ofTimes_0 : dn cX0_ofTimes 0 (.new 8) 3 3 := dnAt dc_X0_ofTimes 0 rfl rfl
theorem d_X0_ofTimes_3 : dn cX0_ofTimes 3 (.dup) 1 4 := dnAt dc_X0_ofTimes 1 rfl rfl
theorem d_X0_ofTimes_4 : dn cX0_ofTimes 4 (.aload_n 0) 1 5 := dnAt dc_X0_ofTimes 2 rfl rfl
theorem d_X0_ofTimes_5 : dn cX0_ofTimes 5 (.getfield 28) 3 8 := dnAt dc_X0_ofTimes 3 rfl rfl
theorem d_X0_ofTimes_8 : dn cX0_ofTimes 8 (.arraylength) 1 9 := dnAt dc_X0_ofTimes 4 rfl rfl
theorem d_X0_ofTimes_9 : dn cX0_ofTimes 9 (.invokespecial 36) 3 12 := dnAt dc_X0_ofTimes 5 rfl rfl
theorem d_X0_ofTimes_12 : dn cX0_ofTimes 12 (.astore_n 2) 1 13 := dnAt dc_X0_ofTimes 6 rfl rfl
theorem d_X0_ofTimes_13 : dn cX0_ofTimes 13 (.aload_n 2) 1 14 := dnAt dc_X0_ofTimes 7 rfl rfl
theorem d_X0_ofTimes_14 : dn cX0_ofTimes 14 (.aload_n 0) 1 15 := dnAt dc_X0_ofTimes 8 rfl rfl
theorem d_X0_ofTimes_15 : dn cX0_ofTimes 15 (.iconst 0) 1 16 := dnAt dc_X0_ofTimes 9 rfl rfl
theorem d_X0_ofTimes_16 : dn cX0_ofTimes 16 (.invokevirtual 53) 3 19 := dnAt dc_X0_ofTimes 10 rfl rfl
theorem d_X0_ofTimes_19 : dn cX0_ofTimes 19 (.aload_n 2) 1 20 := dnAt dc_X0_ofTimes 11 rfl rfl
theorem d_X0_ofTimes_20 : dn cX0_ofTimes 20 (.aload_n 0) 1 21 := dnAt dc_X0_ofTimes 12 rfl rfl
theorem d_X0_ofTimes_21 : dn cX0_ofTimes 21 (.getfield 7) 3 24 := dnAt dc_X0_ofTimes 13 rfl rfl
theorem d_X0_ofTimes_24 : dn cX0_ofTimes 24 (.putfield 7) 3 27 := dnAt dc_X0_ofTimes 14 rfl rfl
theorem d_X0_ofTimes_27 : dn cX0_ofTimes 27 (.aload_n 2) 1 28 := dnAt dc_X0_ofTimes 15 rfl rfl
theorem d_X0_ofTimes_28 : dn cX0_ofTimes 28 (.aload_n 0) 1 29 := dnAt dc_X0_ofTimes 16 rfl rfl
theorem d_X0_ofTimes_29 : dn cX0_ofTimes 29 (.getfield 13) 3 32 := dnAt dc_X0_ofTimes 17 rfl rfl
theorem d_X0_ofTimes_32 : dn cX0_ofTimes 32 (.putfield 13) 3 35 := dnAt dc_X0_ofTimes 18 rfl rfl
theorem d_X0_ofTimes_35 : dn cX0_ofTimes 35 (.aload_n 2) 1 36 := dnAt dc_X0_ofTimes 19 rfl rfl
theorem d_X0_ofTimes_36 : dn cX0_ofTimes 36 (.aload_n 0) 1 37 := dnAt dc_X0_ofTimes 20 rfl rfl
theorem d_X0_ofTimes_37 : dn cX0_ofTimes 37 (.getfield 16) 3 40 := dnAt dc_X0_ofTimes 21 rfl rfl
theorem d_X0_ofTimes_40 : dn cX0_ofTimes 40 (.ifCond .ne 7) 3 43 := dnAt dc_X0_ofTimes 22 rfl rfl
theorem d_X0_ofTimes_43 : dn cX0_ofTimes 43 (.iload_n 1) 1 44 := dnAt dc_X0_ofTimes 23 rfl rfl
theorem d_X0_ofTimes_44 : dn cX0_ofTimes 44 (.ifCond .eq 7) 3 47 := dnAt dc_X0_ofTimes 24 rfl rfl
theorem d_X0_ofTimes_47 : dn cX0_ofTimes 47 (.iconst 1) 1 48 := dnAt dc_X0_ofTimes 25 rfl rfl
theorem d_X0_ofTimes_48 : dn cX0_ofTimes 48 (.goto 4) 3 51 := dnAt dc_X0_ofTimes 26 rfl rfl
theorem d_X0_ofTimes_51 : dn cX0_ofTimes 51 (.iconst 0) 1 52 := dnAt dc_X0_ofTimes 27 rfl rfl
theorem d_X0_ofTimes_52 : dn cX0_ofTimes 52 (.putfield 16) 3 55 := dnAt dc_X0_ofTimes 28 rfl rfl
theorem d_X0_ofTimes_55 : dn cX0_ofTimes 55 (.aload_n 2) 1 56 := dnAt dc_X0_ofTimes 29 rfl rfl
theorem d_X0_ofTimes_56 : dn cX0_ofTimes 56 (.areturn) 1 57 := dnAt dc_X0_ofTimes 30 rfl rfl
set_option maxHeartbeats 4000000 in
set_option maxRecDepth 100000 in
theorem l_ofTimes {l : Launch} {G : eG} {h0 : hp} {o1 t1 n1 m1 f1 l1 r1 : Nat} {y1 i1 : Bool} {nx1 tt1 : Nat → Nat} {c : Bool} (g1 : h0 o1 = some (oC 0 [.ref t1, .ref n1, .int (nI f1), .int (nI l1), .int (bI y1), .int (bI i1), .int (nI r1)])) (g2 : h0 t1 = some (aR G 6 m1 (fun j => if j < m1 then some (tt1 j) else none))) (g3 : h0 n1 = some (aI G m1 (fun j => nI (nx1 j)))) (g4 : ∀ j, j < m1 → ∃ fs, h0 (tt1 j) = some (oC 3 fs)) (hM : m1 ≤ 8) : kL l G h0 [] yX0_ofTimes cX0_ofTimes 3 (Option.some (Jvm.ClassFile.FieldType.object "Corpusline$Part")) { frames := 2, cells := 3, slots := 23, locals := 41 } [.ref o1, .int (bI c)] (fun v9 L9 => ∃ a pt pn, v9 = some (.ref a) ∧ L9 = pcl G a pt pn m1 f1 l1 r1 (y1 || c) false (cutN m1 nx1) tt1) := by
  refine kL.of (by decide) (Nat.le_of_ble_eq_true rfl) ?_
  intro x C A TY CI
  show VL G x h0 [] 0 0 0 [(0, .ref o1), (1, .int (bI c))] []
  refine w_new C d_X0_ofTimes_0 nw_RX0_8 (Nat.le_of_ble_eq_true rfl) (Nat.le_of_ble_eq_true rfl) (fun a => ?_)
  show VL G x h0 [(a, oC 0 [.null, .null, .int (nI 0), .int (nI 0), .int (bI false), .int (bI false), .int (nI 0)])] 1 7 3 [(0, .ref o1), (1, .int (bI c))] [.ref a]
  refine w_dup C d_X0_ofTimes_3 rfl ?_
  refine w_aload_n C d_X0_ofTimes_4 0 rfl ?_
  refine w_getN C d_X0_ofTimes_5 fd_RX0_28 (g1) (v := .ref t1) rfl ?_
  refine w_alenN C d_X0_ofTimes_8 rfl (g2) ?_
  refine w_callI C d_X0_ofTimes_9 ok_RX0_36 (L := [(a, oC 0 [.null, .null, .int (nI 0), .int (nI 0), .int (bI false), .int (bI false), .int (nI 0)])]) (M := []) rfl (fun l h9 m9 c9 => l_X0init (hM)) (rest := [.ref a]) rfl rfl (Nat.le_of_ble_eq_true rfl) ⟨⟨by decide, by decide⟩, Nat.le_of_ble_eq_true rfl, Nat.le_of_ble_eq_true rfl⟩ (fun v9 L9 e9 => ?_)
  obtain ⟨rfl, pt1, pn1, rfl⟩ := e9
  show VL G x h0 [(pn1, aI G m1 (fun i => nI ((fun _ => 0) i))), (pt1, aR G 6 m1 (fun _ => none)), (a, oC 0 [.ref pt1, .ref pn1, .int (nI 0), .int (nI 0), .int (bI false), .int (bI false), .int (nI 0)])] 3 23 12 [(0, .ref o1), (1, .int (bI c))] [.ref a]
  refine w_astore_n C d_X0_ofTimes_12 (lv' := [(2, .ref a), (0, .ref o1), (1, .int (bI c))]) (by decide) rfl ?_
  refine w_aload_n C d_X0_ofTimes_13 0 rfl ?_
  refine w_aload_n C d_X0_ofTimes_14 1 rfl ?_
  refine w_iconst C d_X0_ofTimes_15 (v := (nI 0)) rfl ?_
  refine w_callV C d_X0_ofTimes_16 ok_RX0_53 (L := [(pn1, aI G m1 (fun i => nI ((fun _ => 0) i))), (pt1, aR G 6 m1 (fun _ => none)), (a, oC 0 [.ref pt1, .ref pn1, .int (nI 0), .int (nI 0), .int (bI false), .int (bI false), .int (nI 0)])]) (M := []) rfl (fun l h9 m9 c9 => l_takeTests (F := fun _ => none) (X := fun _ => 0) (m9 _ _ g1) (m9 _ _ g2) (m9 _ _ g3) (fun j hj => (fun ⟨fs, q⟩ => ⟨fs, m9 _ _ q⟩) (g4 j hj)) (by omega) (by omega)) (fun h a9 b9 => b9.at 2 rfl) rfl rfl (rest := []) rfl rfl (Nat.le_of_ble_eq_true rfl) ⟨⟨by decide, by decide⟩, Nat.le_of_ble_eq_true rfl, Nat.le_of_ble_eq_true rfl⟩ (fun v9 L9 e9 => ?_)
  obtain ⟨rfl, rfl⟩ := e9
  show VL G x h0 [(pn1, aI G m1 (fun i => nI (inX (fun _ => 0) nx1 0 m1 i))), (pt1, aR G 6 m1 (inF (fun _ => none) tt1 0 m1)), (a, oC 0 [.ref pt1, .ref pn1, .int (nI 0), .int (nI 0), .int (bI false), .int (bI false), .int (nI (0 ||| r1))])] 3 23 19 [(2, .ref a), (0, .ref o1), (1, .int (bI c))] []
  refine w_aload_n C d_X0_ofTimes_19 0 rfl ?_
  refine w_aload_n C d_X0_ofTimes_20 1 rfl ?_
  refine w_getN C d_X0_ofTimes_21 fd_RX0_7 (g1) (v := .int (nI f1)) rfl ?_
  refine w_put C 2 d_X0_ofTimes_24 pf_RX0_7 rfl rfl rfl (Nat.le_of_ble_eq_true rfl) (fs' := [.ref pt1, .ref pn1, .int (nI f1), .int (nI 0), .int (bI false), .int (bI false), .int (nI (0 ||| r1))]) rfl (L' := [(pn1, aI G m1 (fun i => nI (inX (fun _ => 0) nx1 0 m1 i))), (pt1, aR G 6 m1 (inF (fun _ => none) tt1 0 m1)), (a, oC 0 [.ref pt1, .ref pn1, .int (nI f1), .int (nI 0), .int (bI false), .int (bI false), .int (nI (0 ||| r1))])]) rfl ?_
  refine w_aload_n C d_X0_ofTimes_27 0 rfl ?_
  refine w_aload_n C d_X0_ofTimes_28 1 rfl ?_
  refine w_getN C d_X0_ofTimes_29 fd_RX0_13 (g1) (v := .int (nI l1)) rfl ?_
  refine w_put C 2 d_X0_ofTimes_32 pf_RX0_13 rfl rfl rfl (Nat.le_of_ble_eq_true rfl) (fs' := [.ref pt1, .ref pn1, .int (nI f1), .int (nI l1), .int (bI false), .int (bI false), .int (nI (0 ||| r1))]) rfl (L' := [(pn1, aI G m1 (fun i => nI (inX (fun _ => 0) nx1 0 m1 i))), (pt1, aR G 6 m1 (inF (fun _ => none) tt1 0 m1)), (a, oC 0 [.ref pt1, .ref pn1, .int (nI f1), .int (nI l1), .int (bI false), .int (bI false), .int (nI (0 ||| r1))])]) rfl ?_
  refine w_aload_n C d_X0_ofTimes_35 0 rfl ?_
  refine w_aload_n C d_X0_ofTimes_36 1 rfl ?_
  refine w_getN C d_X0_ofTimes_37 fd_RX0_16 (g1) (v := .int (bI y1)) rfl ?_
  have join_52 : VL G x h0 [(pn1, aI G m1 (fun i => nI (inX (fun _ => 0) nx1 0 m1 i))), (pt1, aR G 6 m1 (inF (fun _ => none) tt1 0 m1)), (a, oC 0 [.ref pt1, .ref pn1, .int (nI f1), .int (nI l1), .int (bI false), .int (bI false), .int (nI (0 ||| r1))])] 3 23 52 [(2, .ref a), (0, .ref o1), (1, .int (bI c))] [.int (bI (y1 || c)), .ref a] := by
    refine w_put C 2 d_X0_ofTimes_52 pf_RX0_16 rfl (bI_nar _) (bI_fit _) (Nat.le_of_ble_eq_true rfl) (fs' := [.ref pt1, .ref pn1, .int (nI f1), .int (nI l1), .int (bI (y1 || c)), .int (bI false), .int (nI (0 ||| r1))]) rfl (L' := [(pn1, aI G m1 (fun i => nI (inX (fun _ => 0) nx1 0 m1 i))), (pt1, aR G 6 m1 (inF (fun _ => none) tt1 0 m1)), (a, oC 0 [.ref pt1, .ref pn1, .int (nI f1), .int (nI l1), .int (bI (y1 || c)), .int (bI false), .int (nI (0 ||| r1))])]) rfl ?_
    refine w_aload_n C d_X0_ofTimes_55 0 rfl ?_
    exact w_aret C A TY d_X0_ofTimes_56 (Nat.le_of_ble_eq_true rfl) (Nat.le_of_ble_eq_true rfl) (⟨a, pt1, pn1, rfl, by rw [inX_one, inF_one, Nat.zero_or]; rfl⟩)
  refine wb_if_ne C d_X0_ofTimes_40 (tgt := 47) rfl (fun c_40 => ?_) (fun c_40 => ?_)
  · skip
    refine w_iconst C d_X0_ofTimes_47 (v := (bI true)) rfl ?_
    refine w_goto C d_X0_ofTimes_48 (tgt := 52) rfl ?_
    refine w_st (st' := [.int (bI (y1 || c)), .ref a]) (by rw [c_40]; rfl) ?_
    exact join_52  
  · skip
    refine w_iload_n C d_X0_ofTimes_43 2 rfl ?_
    refine wb_if_eq C d_X0_ofTimes_44 (tgt := 51) rfl (fun c_44 => ?_) (fun c_44 => ?_)
    · skip
      refine w_iconst C d_X0_ofTimes_51 (v := (bI false)) rfl ?_
      refine w_st (st' := [.int (bI (y1 || c)), .ref a]) (by rw [c_40, c_44]; rfl) ?_
      exact join_52  
    · skip
      refine w_iconst C d_X0_ofTimes_47 (v := (bI true)) rfl ?_
      refine w_goto C d_X0_ofTimes_48 (tgt := 52) rfl ?_
      refine w_st (st' := [.int (bI (y1 || c)), .ref a]) (by rw [c_40, c_44]; rfl) ?_
      exact join_52  
def dl_X0_ofChain : List (Nat × Instr × Nat) := [(0, .aload_n 0, 1), (1, .getfield 28, 3), (4, .arraylength, 1), (5, .istore_n 2, 1), (6, .aload_n 0, 1), (7, .aload_n 1, 1), (8, .invokestatic 42, 3), (11, .astore_n 3, 1), (12, .iconst 0, 1), (13, .istore 4, 2), (15, .iload 4, 2), (17, .iload_n 2, 1), (18, .if_icmp .ge 37, 3), (21, .aload_n 0, 1), (22, .getfield 13, 3), (25, .iload 4, 2), (27, .ishr, 1), (28, .iconst 1, 1), (29, .iand, 1), (30, .ifCond .eq 19, 3), (33, .aload_n 3, 1), (34, .getfield 32, 3), (37, .iload 4, 2), (39, .dup2, 1), (40, .iaload, 1), (41, .aload_n 1, 1), (42, .getfield 7, 3), (45, .iload_n 2, 1), (46, .ishl, 1), (47, .ior, 1), (48, .iastore, 1), (49, .iinc 4 1, 3), (52, .goto (-37), 3), (55, .aload_n 3, 1), (56, .aload_n 0, 1), (57, .getfield 7, 3), (60, .aload_n 0, 1), (61, .getfield 16, 3), (64, .ifCond .eq 12, 3), (67, .aload_n 1, 1), (68, .getfield 7, 3), (71, .iload_n 2, 1), (72, .ishl, 1), (73, .goto 4, 3), (76, .iconst 0, 1), (77, .ior, 1), (78, .putfield 7, 3), (81, .aload_n 3, 1), (82, .aload_n 1, 1), (83, .getfield 13, 3), (86, .iload_n 2, 1), (87, .ishl, 1), (88, .aload_n 1, 1), (89, .getfield 16, 3), (92, .ifCond .eq 10, 3), (95, .aload_n 0, 1), (96, .getfield 13, 3), (99, .goto 4, 3), (102, .iconst 0, 1), (103, .ior, 1), (104, .putfield 13, 3), (107, .aload_n 3, 1), (108, .aload_n 0, 1), (109, .getfield 16, 3), (112, .ifCond .eq 14, 3), (115, .aload_n 1, 1), (116, .getfield 16, 3), (119, .ifCond .eq 7, 3), (122, .iconst 1, 1), (123, .goto 4, 3), (126, .iconst 0, 1), (127, .putfield 16, 3), (130, .aload_n 3, 1), (131, .areturn, 1)]
theorem dc_X0_ofChain : dnL cX0_ofChain dl_X0_ofChain = true := by decide +kernel
theorem d_X0_ofChain_0 : dn cX0_ofChain 0 (.aload_n 0) 1 1 := dnAt dc_X0_ofChain 0 rfl rfl
theorem d_X0_ofChain_1 : dn cX0_ofChain 1 (.getfield 28) 3 4 := dnAt dc_X0_ofChain 1 rfl rfl
theorem d_X0_ofChain_4 : dn cX0_ofChain 4 (.arraylength) 1 5 := dnAt dc_X0_ofChain 2 rfl rfl
theorem d_X0_ofChain_5 : dn cX0_ofChain 5 (.istore_n 2) 1 6 := dnAt dc_X0_ofChain 3 rfl rfl
theorem d_X0_ofChain_6 : dn cX0_ofChain 6 (.aload_n 0) 1 7 := dnAt dc_X0_ofChain 4 rfl rfl
theorem d_X0_ofChain_7 : dn cX0_ofChain 7 (.aload_n 1) 1 8 := dnAt dc_X0_ofChain 5 rfl rfl
theorem d_X0_ofChain_8 : dn cX0_ofChain 8 (.invokestatic 42) 3 11 := dnAt dc_X0_ofChain 6 rfl rfl
theorem d_X0_ofChain_11 : dn cX0_ofChain 11 (.astore_n 3) 1 12 := dnAt dc_X0_ofChain 7 rfl rfl
theorem d_X0_ofChain_12 : dn cX0_ofChain 12 (.iconst 0) 1 13 := dnAt dc_X0_ofChain 8 rfl rfl
theorem d_X0_ofChain_13 : dn cX0_ofChain 13 (.istore 4) 2 15 := dnAt dc_X0_ofChain 9 rfl rfl
theorem d_X0_ofChain_15 : dn cX0_ofChain 15 (.iload 4) 2 17 := dnAt dc_X0_ofChain 10 rfl rfl
theorem d_X0_ofChain_17 : dn cX0_ofChain 17 (.iload_n 2) 1 18 := dnAt dc_X0_ofChain 11 rfl rfl
theorem d_X0_ofChain_18 : dn cX0_ofChain 18 (.if_icmp .ge 37) 3 21 := dnAt dc_X0_ofChain 12 rfl rfl
theorem d_X0_ofChain_21 : dn cX0_ofChain 21 (.aload_n 0) 1 22 := dnAt dc_X0_ofChain 13 rfl rfl
theorem d_X0_ofChain_22 : dn cX0_ofChain 22 (.getfield 13) 3 25 := dnAt dc_X0_ofChain 14 rfl rfl
theorem d_X0_ofChain_25 : dn cX0_ofChain 25 (.iload 4) 2 27 := dnAt dc_X0_ofChain 15 rfl rfl
theorem d_X0_ofChain_27 : dn cX0_ofChain 27 (.ishr) 1 28 := dnAt dc_X0_ofChain 16 rfl rfl
theorem d_X0_ofChain_28 : dn cX0_ofChain 28 (.iconst 1) 1 29 := dnAt dc_X0_ofChain 17 rfl rfl
theorem d_X0_ofChain_29 : dn cX0_ofChain 29 (.iand) 1 30 := dnAt dc_X0_ofChain 18 rfl rfl
theorem d_X0_ofChain_30 : dn cX0_ofChain 30 (.ifCond .eq 19) 3 33 := dnAt dc_X0_ofChain 19 rfl rfl
theorem d_X0_ofChain_33 : dn cX0_ofChain 33 (.aload_n 3) 1 34 := dnAt dc_X0_ofChain 20 rfl rfl
theorem d_X0_ofChain_34 : dn cX0_ofChain 34 (.getfield 32) 3 37 := dnAt dc_X0_ofChain 21 rfl rfl
theorem d_X0_ofChain_37 : dn cX0_ofChain 37 (.iload 4) 2 39 := dnAt dc_X0_ofChain 22 rfl rfl
theorem d_X0_ofChain_39 : dn cX0_ofChain 39 (.dup2) 1 40 := dnAt dc_X0_ofChain 23 rfl rfl
theorem d_X0_ofChain_40 : dn cX0_ofChain 40 (.iaload) 1 41 := dnAt dc_X0_ofChain 24 rfl rfl
theorem d_X0_ofChain_41 : dn cX0_ofChain 41 (.aload_n 1) 1 42 := dnAt dc_X0_ofChain 25 rfl rfl
theorem d_X0_ofChain_42 : dn cX0_ofChain 42 (.getfield 7) 3 45 := dnAt dc_X0_ofChain 26 rfl rfl
theorem d_X0_ofChain_45 : dn cX0_ofChain 45 (.iload_n 2) 1 46 := dnAt dc_X0_ofChain 27 rfl rfl
theorem d_X0_ofChain_46 : dn cX0_ofChain 46 (.ishl) 1 47 := dnAt dc_X0_ofChain 28 rfl rfl
theorem d_X0_ofChain_47 : dn cX0_ofChain 47 (.ior) 1 48 := dnAt dc_X0_ofChain 29 rfl rfl
theorem d_X0_ofChain_48 : dn cX0_ofChain 48 (.iastore) 1 49 := dnAt dc_X0_ofChain 30 rfl rfl
theorem d_X0_ofChain_49 : dn cX0_ofChain 49 (.iinc 4 1) 3 52 := dnAt dc_X0_ofChain 31 rfl rfl
theorem d_X0_ofChain_52 : dn cX0_ofChain 52 (.goto (-37)) 3 55 := dnAt dc_X0_ofChain 32 rfl rfl
theorem d_X0_ofChain_55 : dn cX0_ofChain 55 (.aload_n 3) 1 56 := dnAt dc_X0_ofChain 33 rfl rfl
theorem d_X0_ofChain_56 : dn cX0_ofChain 56 (.aload_n 0) 1 57 := dnAt dc_X0_ofChain 34 rfl rfl
theorem d_X0_ofChain_57 : dn cX0_ofChain 57 (.getfield 7) 3 60 := dnAt dc_X0_ofChain 35 rfl rfl
theorem d_X0_ofChain_60 : dn cX0_ofChain 60 (.aload_n 0) 1 61 := dnAt dc_X0_ofChain 36 rfl rfl
theorem d_X0_ofChain_61 : dn cX0_ofChain 61 (.getfield 16) 3 64 := dnAt dc_X0_ofChain 37 rfl rfl
theorem d_X0_ofChain_64 : dn cX0_ofChain 64 (.ifCond .eq 12) 3 67 := dnAt dc_X0_ofChain 38 rfl rfl
theorem d_X0_ofChain_67 : dn cX0_ofChain 67 (.aload_n 1) 1 68 := dnAt dc_X0_ofChain 39 rfl rfl
theorem d_X0_ofChain_68 : dn cX0_ofChain 68 (.getfield 7) 3 71 := dnAt dc_X0_ofChain 40 rfl rfl
theorem d_X0_ofChain_71 : dn cX0_ofChain 71 (.iload_n 2) 1 72 := dnAt dc_X0_ofChain 41 rfl rfl
theorem d_X0_ofChain_72 : dn cX0_ofChain 72 (.ishl) 1 73 := dnAt dc_X0_ofChain 42 rfl rfl
theorem d_X0_ofChain_73 : dn cX0_ofChain 73 (.goto 4) 3 76 := dnAt dc_X0_ofChain 43 rfl rfl
theorem d_X0_ofChain_76 : dn cX0_ofChain 76 (.iconst 0) 1 77 := dnAt dc_X0_ofChain 44 rfl rfl
theorem d_X0_ofChain_77 : dn cX0_ofChain 77 (.ior) 1 78 := dnAt dc_X0_ofChain 45 rfl rfl
theorem d_X0_ofChain_78 : dn cX0_ofChain 78 (.putfield 7) 3 81 := dnAt dc_X0_ofChain 46 rfl rfl
theorem d_X0_ofChain_81 : dn cX0_ofChain 81 (.aload_n 3) 1 82 := dnAt dc_X0_ofChain 47 rfl rfl
theorem d_X0_ofChain_82 : dn cX0_ofChain 82 (.aload_n 1) 1 83 := dnAt dc_X0_ofChain 48 rfl rfl
theorem d_X0_ofChain_83 : dn cX0_ofChain 83 (.getfield 13) 3 86 := dnAt dc_X0_ofChain 49 rfl rfl
theorem d_X0_ofChain_86 : dn cX0_ofChain 86 (.iload_n 2) 1 87 := dnAt dc_X0_ofChain 50 rfl rfl
theorem d_X0_ofChain_87 : dn cX0_ofChain 87 (.ishl) 1 88 := dnAt dc_X0_ofChain 51 rfl rfl
theorem d_X0_ofChain_88 : dn cX0_ofChain 88 (.aload_n 1) 1 89 := dnAt dc_X0_ofChain 52 rfl rfl
theorem d_X0_ofChain_89 : dn cX0_ofChain 89 (.getfield 16) 3 92 := dnAt dc_X0_ofChain 53 rfl rfl
theorem d_X0_ofChain_92 : dn cX0_ofChain 92 (.ifCond .eq 10) 3 95 := dnAt dc_X0_ofChain 54 rfl rfl
theorem d_X0_ofChain_95 : dn cX0_ofChain 95 (.aload_n 0) 1 96 := dnAt dc_X0_ofChain 55 rfl rfl
theorem d_X0_ofChain_96 : dn cX0_ofChain 96 (.getfield 13) 3 99 := dnAt dc_X0_ofChain 56 rfl rfl
theorem d_X0_ofChain_99 : dn cX0_ofChain 99 (.goto 4) 3 102 := dnAt dc_X0_ofChain 57 rfl rfl
theorem d_X0_ofChain_102 : dn cX0_ofChain 102 (.iconst 0) 1 103 := dnAt dc_X0_ofChain 58 rfl rfl
theorem d_X0_ofChain_103 : dn cX0_ofChain 103 (.ior) 1 104 := dnAt dc_X0_ofChain 59 rfl rfl
theorem d_X0_ofChain_104 : dn cX0_ofChain 104 (.putfield 13) 3 107 := dnAt dc_X0_ofChain 60 rfl rfl
theorem d_X0_ofChain_107 : dn cX0_ofChain 107 (.aload_n 3) 1 108 := dnAt dc_X0_ofChain 61 rfl rfl
theorem d_X0_ofChain_108 : dn cX0_ofChain 108 (.aload_n 0) 1 109 := dnAt dc_X0_ofChain 62 rfl rfl
theorem d_X0_ofChain_109 : dn cX0_ofChain 109 (.getfield 16) 3 112 := dnAt dc_X0_ofChain 63 rfl rfl
theorem d_X0_ofChain_112 : dn cX0_ofChain 112 (.ifCond .eq 14) 3 115 := dnAt dc_X0_ofChain 64 rfl rfl
theorem d_X0_ofChain_115 : dn cX0_ofChain 115 (.aload_n 1) 1 116 := dnAt dc_X0_ofChain 65 rfl rfl
theorem d_X0_ofChain_116 : dn cX0_ofChain 116 (.getfield 16) 3 119 := dnAt dc_X0_ofChain 66 rfl rfl
theorem d_X0_ofChain_119 : dn cX0_ofChain 119 (.ifCond .eq 7) 3 122 := dnAt dc_X0_ofChain 67 rfl rfl
theorem d_X0_ofChain_122 : dn cX0_ofChain 122 (.iconst 1) 1 123 := dnAt dc_X0_ofChain 68 rfl rfl
theorem d_X0_ofChain_123 : dn cX0_ofChain 123 (.goto 4) 3 126 := dnAt dc_X0_ofChain 69 rfl rfl
theorem d_X0_ofChain_126 : dn cX0_ofChain 126 (.iconst 0) 1 127 := dnAt dc_X0_ofChain 70 rfl rfl
theorem d_X0_ofChain_127 : dn cX0_ofChain 127 (.putfield 16) 3 130 := dnAt dc_X0_ofChain 71 rfl rfl
theorem d_X0_ofChain_130 : dn cX0_ofChain 130 (.aload_n 3) 1 131 := dnAt dc_X0_ofChain 72 rfl rfl
theorem d_X0_ofChain_131 : dn cX0_ofChain 131 (.areturn) 1 132 := dnAt dc_X0_ofChain 73 rfl rfl
set_option maxHeartbeats 4000000 in
set_option maxRecDepth 100000 in
theorem l_ofChain {l : Launch} {G : eG} {h0 : hp} {o1 t1 n1 m1 f1 l1 r1 : Nat} {y1 i1 : Bool} {nx1 tt1 : Nat → Nat} {o2 t2 n2 m2 f2 l2 r2 : Nat} {y2 i2 : Bool} {nx2 tt2 : Nat → Nat} (g1 : h0 o1 = some (oC 0 [.ref t1, .ref n1, .int (nI f1), .int (nI l1), .int (bI y1), .int (bI i1), .int (nI r1)])) (g2 : h0 t1 = some (aR G 6 m1 (fun j => if j < m1 then some (tt1 j) else none))) (g3 : h0 n1 = some (aI G m1 (fun j => nI (nx1 j)))) (g4 : ∀ j, j < m1 → ∃ fs, h0 (tt1 j) = some (oC 3 fs)) (k1 : h0 o2 = some (oC 0 [.ref t2, .ref n2, .int (nI f2), .int (nI l2), .int (bI y2), .int (bI i2), .int (nI r2)])) (k2 : h0 t2 = some (aR G 6 m2 (fun j => if j < m2 then some (tt2 j) else none))) (k3 : h0 n2 = some (aI G m2 (fun j => nI (nx2 j)))) (k4 : ∀ j, j < m2 → ∃ fs, h0 (tt2 j) = some (oC 3 fs)) (hM : m1 + m2 ≤ 8) (hl : l1 < 256) : kL l G h0 [] yX0_ofChain cX0_ofChain 5 (Option.some (Jvm.ClassFile.FieldType.object "Corpusline$Part")) { frames := 3, cells := 3, slots := 23, locals := 63 } [.ref o1, .ref o2] (fun v9 L9 => ∃ a pt pn, v9 = some (.ref a) ∧ L9 = pcl G a pt pn (m1 + m2) (f1 ||| (if y1 = true then f2 * 2 ^ m1 else 0)) (l2 * 2 ^ m1 ||| (if y2 = true then l1 else 0)) (r1 ||| r2) (y1 && y2) false (chX m1 m2 nx1 nx2 l1 f2 m1) (tsT m1 tt1 tt2)) := by
  refine kL.of (by decide) (Nat.le_of_ble_eq_true rfl) ?_
  intro x C A TY CI
  show VL G x h0 [] 0 0 0 [(0, .ref o1), (1, .ref o2)] []
  refine w_aload_n C d_X0_ofChain_0 0 rfl ?_
  refine w_getN C d_X0_ofChain_1 fd_RX0_28 (g1) (v := .ref t1) rfl ?_
  refine w_alenN C d_X0_ofChain_4 rfl (g2) ?_
  refine w_istore_n C d_X0_ofChain_5 (lv' := [(2, .int (nI m1)), (0, .ref o1), (1, .ref o2)]) (by decide) rfl ?_
  refine w_aload_n C d_X0_ofChain_6 1 rfl ?_
  refine w_aload_n C d_X0_ofChain_7 2 rfl ?_
  refine w_callS C d_X0_ofChain_8 ok_RX0_42 (L := []) (M := []) rfl (fun l h9 m9 c9 => l_ofTestsOf (m9 _ _ g1) (m9 _ _ g2) (m9 _ _ g3) (fun j hj => (fun ⟨fs, q⟩ => ⟨fs, m9 _ _ q⟩) (g4 j hj)) (m9 _ _ k1) (m9 _ _ k2) (m9 _ _ k3) (fun j hj => (fun ⟨fs, q⟩ => ⟨fs, m9 _ _ q⟩) (k4 j hj)) hM) (rest := []) rfl rfl (Nat.le_of_ble_eq_true rfl) ⟨⟨by decide, by decide⟩, Nat.le_of_ble_eq_true rfl, Nat.le_of_ble_eq_true rfl⟩ (fun v9 L9 e9 => ?_)
  obtain ⟨a1, pt1, pn1, rfl, rfl⟩ := e9
  show VL G x h0 [(pn1, aI G (m1 + m2) (fun i => nI ((tsN m1 m2 nx1 nx2) i))), (pt1, aR G 6 (m1 + m2) (fun j => if j < m1 + m2 then some (tsT m1 tt1 tt2 j) else none)), (a1, oC 0 [.ref pt1, .ref pn1, .int (nI 0), .int (nI 0), .int (bI false), .int (bI false), .int (nI (r1 ||| r2))])] 3 23 11 [(2, .int (nI m1)), (0, .ref o1), (1, .ref o2)] [.ref a1]
  refine w_astore_n C d_X0_ofChain_11 (lv' := [(3, .ref a1), (2, .int (nI m1)), (0, .ref o1), (1, .ref o2)]) (by decide) rfl ?_
  refine w_iconst C d_X0_ofChain_12 (v := (nI 0)) rfl ?_
  refine w_istore C d_X0_ofChain_13 (lv' := [(4, .int (nI 0)), (3, .ref a1), (2, .int (nI m1)), (0, .ref o1), (1, .ref o2)]) (by decide) rfl ?_
  have loop_15 : ∀ (fuel : Nat) (k : Nat), (k ≤ m1) → (9 - k) < fuel → VL G x h0 [(pn1, aI G (m1 + m2) (fun i => nI ((chX m1 m2 nx1 nx2 l1 f2 k) i))), (pt1, aR G 6 (m1 + m2) (fun j => if j < m1 + m2 then some (tsT m1 tt1 tt2 j) else none)), (a1, oC 0 [.ref pt1, .ref pn1, .int (nI 0), .int (nI 0), .int (bI false), .int (bI false), .int (nI (r1 ||| r2))])] 3 23 15 [(4, .int (nI k)), (3, .ref a1), (2, .int (nI m1)), (0, .ref o1), (1, .ref o2)] [] := by
    intro fuel
    induction fuel with
    | zero => intro k hk hf9; exact absurd hf9 (Nat.not_lt_zero _)
    | succ fuel ih_15 =>
      intro k hk hf9
      refine w_iload C d_X0_ofChain_15 0 rfl ?_
      refine w_iload_n C d_X0_ofChain_17 2 rfl ?_
      refine wn_icmp_ge C d_X0_ofChain_18 (tgt := 55) rfl (by omega) (by omega) (fun c_18 => ?_) (fun c_18 => ?_)
      · skip
        have e9 : k = m1 := by omega
        refine w_lve (lv' := [(4, .int (nI m1)), (3, .ref a1), (2, .int (nI m1)), (0, .ref o1), (1, .ref o2)]) (by rw [e9]) ?_
        refine w_aload_n C d_X0_ofChain_55 1 rfl ?_
        refine w_aload_n C d_X0_ofChain_56 3 rfl ?_
        refine w_getN C d_X0_ofChain_57 fd_RX0_7 (g1) (v := .int (nI f1)) rfl ?_
        refine w_aload_n C d_X0_ofChain_60 3 rfl ?_
        refine w_getN C d_X0_ofChain_61 fd_RX0_16 (g1) (v := .int (bI y1)) rfl ?_
        have join_77 : VL G x h0 [(pn1, aI G (m1 + m2) (fun i => nI ((chX m1 m2 nx1 nx2 l1 f2 k) i))), (pt1, aR G 6 (m1 + m2) (fun j => if j < m1 + m2 then some (tsT m1 tt1 tt2 j) else none)), (a1, oC 0 [.ref pt1, .ref pn1, .int (nI 0), .int (nI 0), .int (bI false), .int (bI false), .int (nI (r1 ||| r2))])] 3 23 77 [(4, .int (nI m1)), (3, .ref a1), (2, .int (nI m1)), (0, .ref o1), (1, .ref o2)] [.int (nI (if y1 = true then f2 * 2 ^ m1 else 0)), .int (nI f1), .ref a1] := by
          refine wn_ior C d_X0_ofChain_77 ?_
          refine w_put C 2 d_X0_ofChain_78 pf_RX0_7 rfl rfl rfl (Nat.le_of_ble_eq_true rfl) (fs' := [.ref pt1, .ref pn1, .int (nI (f1 ||| (if y1 = true then f2 * 2 ^ m1 else 0))), .int (nI 0), .int (bI false), .int (bI false), .int (nI (r1 ||| r2))]) rfl (L' := [(pn1, aI G (m1 + m2) (fun i => nI ((chX m1 m2 nx1 nx2 l1 f2 k) i))), (pt1, aR G 6 (m1 + m2) (fun j => if j < m1 + m2 then some (tsT m1 tt1 tt2 j) else none)), (a1, oC 0 [.ref pt1, .ref pn1, .int (nI (f1 ||| (if y1 = true then f2 * 2 ^ m1 else 0))), .int (nI 0), .int (bI false), .int (bI false), .int (nI (r1 ||| r2))])]) rfl ?_
          refine w_aload_n C d_X0_ofChain_81 1 rfl ?_
          refine w_aload_n C d_X0_ofChain_82 4 rfl ?_
          refine w_getN C d_X0_ofChain_83 fd_RX0_13 (k1) (v := .int (nI l2)) rfl ?_
          refine w_iload_n C d_X0_ofChain_86 2 rfl ?_
          refine wn_ishl C d_X0_ofChain_87 (by omega) ?_
          refine w_aload_n C d_X0_ofChain_88 4 rfl ?_
          refine w_getN C d_X0_ofChain_89 fd_RX0_16 (k1) (v := .int (bI y2)) rfl ?_
          have join_103 : VL G x h0 [(pn1, aI G (m1 + m2) (fun i => nI ((chX m1 m2 nx1 nx2 l1 f2 k) i))), (pt1, aR G 6 (m1 + m2) (fun j => if j < m1 + m2 then some (tsT m1 tt1 tt2 j) else none)), (a1, oC 0 [.ref pt1, .ref pn1, .int (nI (f1 ||| (if y1 = true then f2 * 2 ^ m1 else 0))), .int (nI 0), .int (bI false), .int (bI false), .int (nI (r1 ||| r2))])] 3 23 103 [(4, .int (nI m1)), (3, .ref a1), (2, .int (nI m1)), (0, .ref o1), (1, .ref o2)] [.int (nI (if y2 = true then l1 else 0)), .int (nI (l2 * 2 ^ m1)), .ref a1] := by
            refine wn_ior C d_X0_ofChain_103 ?_
            refine w_put C 2 d_X0_ofChain_104 pf_RX0_13 rfl rfl rfl (Nat.le_of_ble_eq_true rfl) (fs' := [.ref pt1, .ref pn1, .int (nI (f1 ||| (if y1 = true then f2 * 2 ^ m1 else 0))), .int (nI ((l2 * 2 ^ m1) ||| (if y2 = true then l1 else 0))), .int (bI false), .int (bI false), .int (nI (r1 ||| r2))]) rfl (L' := [(pn1, aI G (m1 + m2) (fun i => nI ((chX m1 m2 nx1 nx2 l1 f2 k) i))), (pt1, aR G 6 (m1 + m2) (fun j => if j < m1 + m2 then some (tsT m1 tt1 tt2 j) else none)), (a1, oC 0 [.ref pt1, .ref pn1, .int (nI (f1 ||| (if y1 = true then f2 * 2 ^ m1 else 0))), .int (nI ((l2 * 2 ^ m1) ||| (if y2 = true then l1 else 0))), .int (bI false), .int (bI false), .int (nI (r1 ||| r2))])]) rfl ?_
            refine w_aload_n C d_X0_ofChain_107 1 rfl ?_
            refine w_aload_n C d_X0_ofChain_108 3 rfl ?_
            refine w_getN C d_X0_ofChain_109 fd_RX0_16 (g1) (v := .int (bI y1)) rfl ?_
            have join_127 : VL G x h0 [(pn1, aI G (m1 + m2) (fun i => nI ((chX m1 m2 nx1 nx2 l1 f2 k) i))), (pt1, aR G 6 (m1 + m2) (fun j => if j < m1 + m2 then some (tsT m1 tt1 tt2 j) else none)), (a1, oC 0 [.ref pt1, .ref pn1, .int (nI (f1 ||| (if y1 = true then f2 * 2 ^ m1 else 0))), .int (nI ((l2 * 2 ^ m1) ||| (if y2 = true then l1 else 0))), .int (bI false), .int (bI false), .int (nI (r1 ||| r2))])] 3 23 127 [(4, .int (nI m1)), (3, .ref a1), (2, .int (nI m1)), (0, .ref o1), (1, .ref o2)] [.int (bI (y1 && y2)), .ref a1] := by
              refine w_put C 2 d_X0_ofChain_127 pf_RX0_16 rfl (bI_nar _) (bI_fit _) (Nat.le_of_ble_eq_true rfl) (fs' := [.ref pt1, .ref pn1, .int (nI (f1 ||| (if y1 = true then f2 * 2 ^ m1 else 0))), .int (nI ((l2 * 2 ^ m1) ||| (if y2 = true then l1 else 0))), .int (bI (y1 && y2)), .int (bI false), .int (nI (r1 ||| r2))]) rfl (L' := [(pn1, aI G (m1 + m2) (fun i => nI ((chX m1 m2 nx1 nx2 l1 f2 k) i))), (pt1, aR G 6 (m1 + m2) (fun j => if j < m1 + m2 then some (tsT m1 tt1 tt2 j) else none)), (a1, oC 0 [.ref pt1, .ref pn1, .int (nI (f1 ||| (if y1 = true then f2 * 2 ^ m1 else 0))), .int (nI ((l2 * 2 ^ m1) ||| (if y2 = true then l1 else 0))), .int (bI (y1 && y2)), .int (bI false), .int (nI (r1 ||| r2))])]) rfl ?_
              refine w_aload_n C d_X0_ofChain_130 1 rfl ?_
              exact w_aret C A TY d_X0_ofChain_131 (Nat.le_of_ble_eq_true rfl) (Nat.le_of_ble_eq_true rfl) (⟨a1, pt1, pn1, rfl, by rw [e9]; rfl⟩)
            refine wb_if_eq C d_X0_ofChain_112 (tgt := 126) rfl (fun c_112 => ?_) (fun c_112 => ?_)
            · skip
              refine w_iconst C d_X0_ofChain_126 (v := (bI false)) rfl ?_
              refine w_st (st' := [.int (bI (y1 && y2)), .ref a1]) (by rw [c_112]; rfl) ?_
              exact join_127  
            · skip
              refine w_aload_n C d_X0_ofChain_115 4 rfl ?_
              refine w_getN C d_X0_ofChain_116 fd_RX0_16 (k1) (v := .int (bI y2)) rfl ?_
              refine wb_if_eq C d_X0_ofChain_119 (tgt := 126) rfl (fun c_119 => ?_) (fun c_119 => ?_)
              · skip
                refine w_iconst C d_X0_ofChain_126 (v := (bI false)) rfl ?_
                refine w_st (st' := [.int (bI (y1 && y2)), .ref a1]) (by rw [c_112, c_119]; rfl) ?_
                exact join_127  
              · skip
                refine w_iconst C d_X0_ofChain_122 (v := (bI true)) rfl ?_
                refine w_goto C d_X0_ofChain_123 (tgt := 127) rfl ?_
                refine w_st (st' := [.int (bI (y1 && y2)), .ref a1]) (by rw [c_112, c_119]; rfl) ?_
                exact join_127  
          refine wb_if_eq C d_X0_ofChain_92 (tgt := 102) rfl (fun c_92 => ?_) (fun c_92 => ?_)
          · skip
            refine w_iconst C d_X0_ofChain_102 (v := (nI 0)) rfl ?_
            refine w_st (st' := [.int (nI (if y2 = true then l1 else 0)), .int (nI (l2 * 2 ^ m1)), .ref a1]) (by rw [if_neg (by rw [c_92]; decide)]) ?_
            exact join_103  
          · skip
            refine w_aload_n C d_X0_ofChain_95 3 rfl ?_
            refine w_getN C d_X0_ofChain_96 fd_RX0_13 (g1) (v := .int (nI l1)) rfl ?_
            refine w_goto C d_X0_ofChain_99 (tgt := 103) rfl ?_
            refine w_st (st' := [.int (nI (if y2 = true then l1 else 0)), .int (nI (l2 * 2 ^ m1)), .ref a1]) (by rw [if_pos c_92]) ?_
            exact join_103  
        refine wb_if_eq C d_X0_ofChain_64 (tgt := 76) rfl (fun c_64 => ?_) (fun c_64 => ?_)
        · skip
          refine w_iconst C d_X0_ofChain_76 (v := (nI 0)) rfl ?_
          refine w_st (st' := [.int (nI (if y1 = true then f2 * 2 ^ m1 else 0)), .int (nI f1), .ref a1]) (by rw [if_neg (by rw [c_64]; decide)]) ?_
          exact join_77  
        · skip
          refine w_aload_n C d_X0_ofChain_67 4 rfl ?_
          refine w_getN C d_X0_ofChain_68 fd_RX0_7 (k1) (v := .int (nI f2)) rfl ?_
          refine w_iload_n C d_X0_ofChain_71 2 rfl ?_
          refine wn_ishl C d_X0_ofChain_72 (by omega) ?_
          refine w_goto C d_X0_ofChain_73 (tgt := 77) rfl ?_
          refine w_st (st' := [.int (nI (if y1 = true then f2 * 2 ^ m1 else 0)), .int (nI f1), .ref a1]) (by rw [if_pos c_64]) ?_
          exact join_77  
      · skip
        refine w_aload_n C d_X0_ofChain_21 3 rfl ?_
        refine w_getN C d_X0_ofChain_22 fd_RX0_13 (g1) (v := .int (nI l1)) rfl ?_
        refine w_iload C d_X0_ofChain_25 0 rfl ?_
        refine wn_ishr C d_X0_ofChain_27 (by omega) (by omega) ?_
        refine w_iconst C d_X0_ofChain_28 (v := (nI 1)) rfl ?_
        refine wn_iand C d_X0_ofChain_29 ?_
        refine w_st (st' := [.int (nI (l1 / 2 ^ k % 2))]) (by rw [and1]) ?_
        have join_49 : VL G x h0 [(pn1, aI G (m1 + m2) (fun i => nI ((chX m1 m2 nx1 nx2 l1 f2 (k + 1)) i))), (pt1, aR G 6 (m1 + m2) (fun j => if j < m1 + m2 then some (tsT m1 tt1 tt2 j) else none)), (a1, oC 0 [.ref pt1, .ref pn1, .int (nI 0), .int (nI 0), .int (bI false), .int (bI false), .int (nI (r1 ||| r2))])] 3 23 49 [(4, .int (nI k)), (3, .ref a1), (2, .int (nI m1)), (0, .ref o1), (1, .ref o2)] [] := by
          refine wn_iinc C d_X0_ofChain_49 (lv' := [(4, .int (nI (k + 1))), (3, .ref a1), (2, .int (nI m1)), (0, .ref o1), (1, .ref o2)]) 0 rfl (nI_inc _ rfl) (by decide) rfl ?_
          refine w_goto C d_X0_ofChain_52 (tgt := 15) rfl ?_
          exact ih_15 (k + 1) (by omega) (by omega)
        refine wn_if_eq C d_X0_ofChain_30 (tgt := 49) rfl (by omega) (fun c_30 => ?_) (fun c_30 => ?_)
        · skip
          refine w_eq (L' := [(pn1, aI G (m1 + m2) (fun i => nI ((chX m1 m2 nx1 nx2 l1 f2 (k + 1)) i))), (pt1, aR G 6 (m1 + m2) (fun j => if j < m1 + m2 then some (tsT m1 tt1 tt2 j) else none)), (a1, oC 0 [.ref pt1, .ref pn1, .int (nI 0), .int (nI 0), .int (bI false), .int (bI false), .int (nI (r1 ||| r2))])]) (by rw [chX_n (by omega)]) ?_
          exact join_49  
        · skip
          refine w_aload_n C d_X0_ofChain_33 1 rfl ?_
          refine w_get C 2 d_X0_ofChain_34 fd_RX0_32 rfl (v := .ref pn1) rfl ?_
          refine w_iload C d_X0_ofChain_37 0 rfl ?_
          refine w_dup2 C d_X0_ofChain_39 rfl rfl ?_
          refine w_iald C 0 d_X0_ofChain_40 rfl (by omega) (by omega) ?_
          show VL G x h0 [(pn1, aI G (m1 + m2) (fun i => nI ((chX m1 m2 nx1 nx2 l1 f2 k) i))), (pt1, aR G 6 (m1 + m2) (fun j => if j < m1 + m2 then some (tsT m1 tt1 tt2 j) else none)), (a1, oC 0 [.ref pt1, .ref pn1, .int (nI 0), .int (nI 0), .int (bI false), .int (bI false), .int (nI (r1 ||| r2))])] 3 23 41 [(4, .int (nI k)), (3, .ref a1), (2, .int (nI m1)), (0, .ref o1), (1, .ref o2)] [.int (nI (chX m1 m2 nx1 nx2 l1 f2 k k)), .int (nI k), .ref pn1]
          refine w_st (st' := [.int (nI (tsN m1 m2 nx1 nx2 k)), .int (nI k), .ref pn1]) (by rw [chX_k]) ?_
          refine w_aload_n C d_X0_ofChain_41 4 rfl ?_
          refine w_getN C d_X0_ofChain_42 fd_RX0_7 (k1) (v := .int (nI f2)) rfl ?_
          refine w_iload_n C d_X0_ofChain_45 2 rfl ?_
          refine wn_ishl C d_X0_ofChain_46 (by omega) ?_
          refine wn_ior C d_X0_ofChain_47 ?_
          refine w_iast C 0 d_X0_ofChain_48 rfl (by omega) (by omega) (L' := [(pn1, aI G (m1 + m2) (upd (fun i => nI ((chX m1 m2 nx1 nx2 l1 f2 k) i)) k (nI ((tsN m1 m2 nx1 nx2 k) ||| (f2 * 2 ^ m1))))), (pt1, aR G 6 (m1 + m2) (fun j => if j < m1 + m2 then some (tsT m1 tt1 tt2 j) else none)), (a1, oC 0 [.ref pt1, .ref pn1, .int (nI 0), .int (nI 0), .int (bI false), .int (bI false), .int (nI (r1 ||| r2))])]) rfl ?_
          refine w_eq (L' := [(pn1, aI G (m1 + m2) (fun i => nI ((chX m1 m2 nx1 nx2 l1 f2 (k + 1)) i))), (pt1, aR G 6 (m1 + m2) (fun j => if j < m1 + m2 then some (tsT m1 tt1 tt2 j) else none)), (a1, oC 0 [.ref pt1, .ref pn1, .int (nI 0), .int (nI 0), .int (bI false), .int (bI false), .int (nI (r1 ||| r2))])]) (by rw [chX_s (by omega)]) ?_
          exact join_49  
  refine w_eq (L' := [(pn1, aI G (m1 + m2) (fun i => nI ((chX m1 m2 nx1 nx2 l1 f2 0) i))), (pt1, aR G 6 (m1 + m2) (fun j => if j < m1 + m2 then some (tsT m1 tt1 tt2 j) else none)), (a1, oC 0 [.ref pt1, .ref pn1, .int (nI 0), .int (nI 0), .int (bI false), .int (bI false), .int (nI (r1 ||| r2))])]) (by rw [← chX_0]) ?_
  exact loop_15 _ 0 (by omega) (Nat.lt_succ_self _)
def dl_X0_ofEither : List (Nat × Instr × Nat) := [(0, .aload_n 0, 1), (1, .getfield 28, 3), (4, .arraylength, 1), (5, .istore_n 2, 1), (6, .aload_n 0, 1), (7, .aload_n 1, 1), (8, .invokestatic 42, 3), (11, .astore_n 3, 1), (12, .aload_n 3, 1), (13, .aload_n 0, 1), (14, .getfield 7, 3), (17, .aload_n 1, 1), (18, .getfield 7, 3), (21, .iload_n 2, 1), (22, .ishl, 1), (23, .ior, 1), (24, .putfield 7, 3), (27, .aload_n 3, 1), (28, .aload_n 0, 1), (29, .getfield 13, 3), (32, .aload_n 1, 1), (33, .getfield 13, 3), (36, .iload_n 2, 1), (37, .ishl, 1), (38, .ior, 1), (39, .putfield 13, 3), (42, .aload_n 3, 1), (43, .aload_n 0, 1), (44, .getfield 16, 3), (47, .ifCond .ne 10, 3), (50, .aload_n 1, 1), (51, .getfield 16, 3), (54, .ifCond .eq 7, 3), (57, .iconst 1, 1), (58, .goto 4, 3), (61, .iconst 0, 1), (62, .putfield 16, 3), (65, .aload_n 3, 1), (66, .areturn, 1)]
theorem dc_X0_ofEither : dnL cX0_ofEither dl_X0_ofEither = true := by decide +kernel
theorem d_X0_ofEither_0 : dn cX0_ofEither 0 (.aload_n 0) 1 1 := dnAt dc_X0_ofEither 0 rfl rfl
theorem d_X0_ofEither_1 : dn cX0_ofEither 1 (.getfield 28) 3 4 := dnAt dc_X0_ofEither 1 rfl rfl
theorem d_X0_ofEither_4 : dn cX0_ofEither 4 (.arraylength) 1 5 := dnAt dc_X0_ofEither 2 rfl rfl
theorem d_X0_ofEither_5 : dn cX0_ofEither 5 (.istore_n 2) 1 6 := dnAt dc_X0_ofEither 3 rfl rfl
theorem d_X0_ofEither_6 : dn cX0_ofEither 6 (.aload_n 0) 1 7 := dnAt dc_X0_ofEither 4 rfl rfl
theorem d_X0_ofEither_7 : dn cX0_ofEither 7 (.aload_n 1) 1 8 := dnAt dc_X0_ofEither 5 rfl rfl
theorem d_X0_ofEither_8 : dn cX0_ofEither 8 (.invokestatic 42) 3 11 := dnAt dc_X0_ofEither 6 rfl rfl
theorem d_X0_ofEither_11 : dn cX0_ofEither 11 (.astore_n 3) 1 12 := dnAt dc_X0_ofEither 7 rfl rfl
theorem d_X0_ofEither_12 : dn cX0_ofEither 12 (.aload_n 3) 1 13 := dnAt dc_X0_ofEither 8 rfl rfl
theorem d_X0_ofEither_13 : dn cX0_ofEither 13 (.aload_n 0) 1 14 := dnAt dc_X0_ofEither 9 rfl rfl
theorem d_X0_ofEither_14 : dn cX0_ofEither 14 (.getfield 7) 3 17 := dnAt dc_X0_ofEither 10 rfl rfl
theorem d_X0_ofEither_17 : dn cX0_ofEither 17 (.aload_n 1) 1 18 := dnAt dc_X0_ofEither 11 rfl rfl
theorem d_X0_ofEither_18 : dn cX0_ofEither 18 (.getfield 7) 3 21 := dnAt dc_X0_ofEither 12 rfl rfl
theorem d_X0_ofEither_21 : dn cX0_ofEither 21 (.iload_n 2) 1 22 := dnAt dc_X0_ofEither 13 rfl rfl
theorem d_X0_ofEither_22 : dn cX0_ofEither 22 (.ishl) 1 23 := dnAt dc_X0_ofEither 14 rfl rfl
theorem d_X0_ofEither_23 : dn cX0_ofEither 23 (.ior) 1 24 := dnAt dc_X0_ofEither 15 rfl rfl
theorem d_X0_ofEither_24 : dn cX0_ofEither 24 (.putfield 7) 3 27 := dnAt dc_X0_ofEither 16 rfl rfl
theorem d_X0_ofEither_27 : dn cX0_ofEither 27 (.aload_n 3) 1 28 := dnAt dc_X0_ofEither 17 rfl rfl
theorem d_X0_ofEither_28 : dn cX0_ofEither 28 (.aload_n 0) 1 29 := dnAt dc_X0_ofEither 18 rfl rfl
theorem d_X0_ofEither_29 : dn cX0_ofEither 29 (.getfield 13) 3 32 := dnAt dc_X0_ofEither 19 rfl rfl
theorem d_X0_ofEither_32 : dn cX0_ofEither 32 (.aload_n 1) 1 33 := dnAt dc_X0_ofEither 20 rfl rfl
theorem d_X0_ofEither_33 : dn cX0_ofEither 33 (.getfield 13) 3 36 := dnAt dc_X0_ofEither 21 rfl rfl
theorem d_X0_ofEither_36 : dn cX0_ofEither 36 (.iload_n 2) 1 37 := dnAt dc_X0_ofEither 22 rfl rfl
theorem d_X0_ofEither_37 : dn cX0_ofEither 37 (.ishl) 1 38 := dnAt dc_X0_ofEither 23 rfl rfl
theorem d_X0_ofEither_38 : dn cX0_ofEither 38 (.ior) 1 39 := dnAt dc_X0_ofEither 24 rfl rfl
theorem d_X0_ofEither_39 : dn cX0_ofEither 39 (.putfield 13) 3 42 := dnAt dc_X0_ofEither 25 rfl rfl
theorem d_X0_ofEither_42 : dn cX0_ofEither 42 (.aload_n 3) 1 43 := dnAt dc_X0_ofEither 26 rfl rfl
theorem d_X0_ofEither_43 : dn cX0_ofEither 43 (.aload_n 0) 1 44 := dnAt dc_X0_ofEither 27 rfl rfl
theorem d_X0_ofEither_44 : dn cX0_ofEither 44 (.getfield 16) 3 47 := dnAt dc_X0_ofEither 28 rfl rfl
theorem d_X0_ofEither_47 : dn cX0_ofEither 47 (.ifCond .ne 10) 3 50 := dnAt dc_X0_ofEither 29 rfl rfl
theorem d_X0_ofEither_50 : dn cX0_ofEither 50 (.aload_n 1) 1 51 := dnAt dc_X0_ofEither 30 rfl rfl
theorem d_X0_ofEither_51 : dn cX0_ofEither 51 (.getfield 16) 3 54 := dnAt dc_X0_ofEither 31 rfl rfl
theorem d_X0_ofEither_54 : dn cX0_ofEither 54 (.ifCond .eq 7) 3 57 := dnAt dc_X0_ofEither 32 rfl rfl
theorem d_X0_ofEither_57 : dn cX0_ofEither 57 (.iconst 1) 1 58 := dnAt dc_X0_ofEither 33 rfl rfl
theorem d_X0_ofEither_58 : dn cX0_ofEither 58 (.goto 4) 3 61 := dnAt dc_X0_ofEither 34 rfl rfl
theorem d_X0_ofEither_61 : dn cX0_ofEither 61 (.iconst 0) 1 62 := dnAt dc_X0_ofEither 35 rfl rfl
theorem d_X0_ofEither_62 : dn cX0_ofEither 62 (.putfield 16) 3 65 := dnAt dc_X0_ofEither 36 rfl rfl
theorem d_X0_ofEither_65 : dn cX0_ofEither 65 (.aload_n 3) 1 66 := dnAt dc_X0_ofEither 37 rfl rfl
theorem d_X0_ofEither_66 : dn cX0_ofEither 66 (.areturn) 1 67 := dnAt dc_X0_ofEither 38 rfl rfl
set_option maxHeartbeats 4000000 in
set_option maxRecDepth 100000 in
theorem l_ofEither {l : Launch} {G : eG} {h0 : hp} {o1 t1 n1 m1 f1 l1 r1 : Nat} {y1 i1 : Bool} {nx1 tt1 : Nat → Nat} {o2 t2 n2 m2 f2 l2 r2 : Nat} {y2 i2 : Bool} {nx2 tt2 : Nat → Nat} (g1 : h0 o1 = some (oC 0 [.ref t1, .ref n1, .int (nI f1), .int (nI l1), .int (bI y1), .int (bI i1), .int (nI r1)])) (g2 : h0 t1 = some (aR G 6 m1 (fun j => if j < m1 then some (tt1 j) else none))) (g3 : h0 n1 = some (aI G m1 (fun j => nI (nx1 j)))) (g4 : ∀ j, j < m1 → ∃ fs, h0 (tt1 j) = some (oC 3 fs)) (k1 : h0 o2 = some (oC 0 [.ref t2, .ref n2, .int (nI f2), .int (nI l2), .int (bI y2), .int (bI i2), .int (nI r2)])) (k2 : h0 t2 = some (aR G 6 m2 (fun j => if j < m2 then some (tt2 j) else none))) (k3 : h0 n2 = some (aI G m2 (fun j => nI (nx2 j)))) (k4 : ∀ j, j < m2 → ∃ fs, h0 (tt2 j) = some (oC 3 fs)) (hM : m1 + m2 ≤ 8) : kL l G h0 [] yX0_ofEither cX0_ofEither 4 (Option.some (Jvm.ClassFile.FieldType.object "Corpusline$Part")) { frames := 3, cells := 3, slots := 23, locals := 63 } [.ref o1, .ref o2] (fun v9 L9 => ∃ a pt pn, v9 = some (.ref a) ∧ L9 = pcl G a pt pn (m1 + m2) (f1 ||| f2 * 2 ^ m1) (l1 ||| l2 * 2 ^ m1) (r1 ||| r2) (y1 || y2) false (tsN m1 m2 nx1 nx2) (tsT m1 tt1 tt2)) := by
  refine kL.of (by decide) (Nat.le_of_ble_eq_true rfl) ?_
  intro x C A TY CI
  show VL G x h0 [] 0 0 0 [(0, .ref o1), (1, .ref o2)] []
  refine w_aload_n C d_X0_ofEither_0 0 rfl ?_
  refine w_getN C d_X0_ofEither_1 fd_RX0_28 (g1) (v := .ref t1) rfl ?_
  refine w_alenN C d_X0_ofEither_4 rfl (g2) ?_
  refine w_istore_n C d_X0_ofEither_5 (lv' := [(2, .int (nI m1)), (0, .ref o1), (1, .ref o2)]) (by decide) rfl ?_
  refine w_aload_n C d_X0_ofEither_6 1 rfl ?_
  refine w_aload_n C d_X0_ofEither_7 2 rfl ?_
  refine w_callS C d_X0_ofEither_8 ok_RX0_42 (L := []) (M := []) rfl (fun l h9 m9 c9 => l_ofTestsOf (m9 _ _ g1) (m9 _ _ g2) (m9 _ _ g3) (fun j hj => (fun ⟨fs, q⟩ => ⟨fs, m9 _ _ q⟩) (g4 j hj)) (m9 _ _ k1) (m9 _ _ k2) (m9 _ _ k3) (fun j hj => (fun ⟨fs, q⟩ => ⟨fs, m9 _ _ q⟩) (k4 j hj)) hM) (rest := []) rfl rfl (Nat.le_of_ble_eq_true rfl) ⟨⟨by decide, by decide⟩, Nat.le_of_ble_eq_true rfl, Nat.le_of_ble_eq_true rfl⟩ (fun v9 L9 e9 => ?_)
  obtain ⟨a1, pt1, pn1, rfl, rfl⟩ := e9
  show VL G x h0 [(pn1, aI G (m1 + m2) (fun i => nI ((tsN m1 m2 nx1 nx2) i))), (pt1, aR G 6 (m1 + m2) (fun j => if j < m1 + m2 then some (tsT m1 tt1 tt2 j) else none)), (a1, oC 0 [.ref pt1, .ref pn1, .int (nI 0), .int (nI 0), .int (bI false), .int (bI false), .int (nI (r1 ||| r2))])] 3 23 11 [(2, .int (nI m1)), (0, .ref o1), (1, .ref o2)] [.ref a1]
  refine w_astore_n C d_X0_ofEither_11 (lv' := [(3, .ref a1), (2, .int (nI m1)), (0, .ref o1), (1, .ref o2)]) (by decide) rfl ?_
  refine w_aload_n C d_X0_ofEither_12 0 rfl ?_
  refine w_aload_n C d_X0_ofEither_13 2 rfl ?_
  refine w_getN C d_X0_ofEither_14 fd_RX0_7 (g1) (v := .int (nI f1)) rfl ?_
  refine w_aload_n C d_X0_ofEither_17 3 rfl ?_
  refine w_getN C d_X0_ofEither_18 fd_RX0_7 (k1) (v := .int (nI f2)) rfl ?_
  refine w_iload_n C d_X0_ofEither_21 1 rfl ?_
  refine wn_ishl C d_X0_ofEither_22 (by omega) ?_
  refine wn_ior C d_X0_ofEither_23 ?_
  refine w_put C 2 d_X0_ofEither_24 pf_RX0_7 rfl rfl rfl (Nat.le_of_ble_eq_true rfl) (fs' := [.ref pt1, .ref pn1, .int (nI (f1 ||| (f2 * 2 ^ m1))), .int (nI 0), .int (bI false), .int (bI false), .int (nI (r1 ||| r2))]) rfl (L' := [(pn1, aI G (m1 + m2) (fun i => nI ((tsN m1 m2 nx1 nx2) i))), (pt1, aR G 6 (m1 + m2) (fun j => if j < m1 + m2 then some (tsT m1 tt1 tt2 j) else none)), (a1, oC 0 [.ref pt1, .ref pn1, .int (nI (f1 ||| (f2 * 2 ^ m1))), .int (nI 0), .int (bI false), .int (bI false), .int (nI (r1 ||| r2))])]) rfl ?_
  refine w_aload_n C d_X0_ofEither_27 0 rfl ?_
  refine w_aload_n C d_X0_ofEither_28 2 rfl ?_
  refine w_getN C d_X0_ofEither_29 fd_RX0_13 (g1) (v := .int (nI l1)) rfl ?_
  refine w_aload_n C d_X0_ofEither_32 3 rfl ?_
  refine w_getN C d_X0_ofEither_33 fd_RX0_13 (k1) (v := .int (nI l2)) rfl ?_
  refine w_iload_n C d_X0_ofEither_36 1 rfl ?_
  refine wn_ishl C d_X0_ofEither_37 (by omega) ?_
  refine wn_ior C d_X0_ofEither_38 ?_
  refine w_put C 2 d_X0_ofEither_39 pf_RX0_13 rfl rfl rfl (Nat.le_of_ble_eq_true rfl) (fs' := [.ref pt1, .ref pn1, .int (nI (f1 ||| (f2 * 2 ^ m1))), .int (nI (l1 ||| (l2 * 2 ^ m1))), .int (bI false), .int (bI false), .int (nI (r1 ||| r2))]) rfl (L' := [(pn1, aI G (m1 + m2) (fun i => nI ((tsN m1 m2 nx1 nx2) i))), (pt1, aR G 6 (m1 + m2) (fun j => if j < m1 + m2 then some (tsT m1 tt1 tt2 j) else none)), (a1, oC 0 [.ref pt1, .ref pn1, .int (nI (f1 ||| (f2 * 2 ^ m1))), .int (nI (l1 ||| (l2 * 2 ^ m1))), .int (bI false), .int (bI false), .int (nI (r1 ||| r2))])]) rfl ?_
  refine w_aload_n C d_X0_ofEither_42 0 rfl ?_
  refine w_aload_n C d_X0_ofEither_43 2 rfl ?_
  refine w_getN C d_X0_ofEither_44 fd_RX0_16 (g1) (v := .int (bI y1)) rfl ?_
  have join_62 : VL G x h0 [(pn1, aI G (m1 + m2) (fun i => nI ((tsN m1 m2 nx1 nx2) i))), (pt1, aR G 6 (m1 + m2) (fun j => if j < m1 + m2 then some (tsT m1 tt1 tt2 j) else none)), (a1, oC 0 [.ref pt1, .ref pn1, .int (nI (f1 ||| (f2 * 2 ^ m1))), .int (nI (l1 ||| (l2 * 2 ^ m1))), .int (bI false), .int (bI false), .int (nI (r1 ||| r2))])] 3 23 62 [(3, .ref a1), (2, .int (nI m1)), (0, .ref o1), (1, .ref o2)] [.int (bI (y1 || y2)), .ref a1] := by
    refine w_put C 2 d_X0_ofEither_62 pf_RX0_16 rfl (bI_nar _) (bI_fit _) (Nat.le_of_ble_eq_true rfl) (fs' := [.ref pt1, .ref pn1, .int (nI (f1 ||| (f2 * 2 ^ m1))), .int (nI (l1 ||| (l2 * 2 ^ m1))), .int (bI (y1 || y2)), .int (bI false), .int (nI (r1 ||| r2))]) rfl (L' := [(pn1, aI G (m1 + m2) (fun i => nI ((tsN m1 m2 nx1 nx2) i))), (pt1, aR G 6 (m1 + m2) (fun j => if j < m1 + m2 then some (tsT m1 tt1 tt2 j) else none)), (a1, oC 0 [.ref pt1, .ref pn1, .int (nI (f1 ||| (f2 * 2 ^ m1))), .int (nI (l1 ||| (l2 * 2 ^ m1))), .int (bI (y1 || y2)), .int (bI false), .int (nI (r1 ||| r2))])]) rfl ?_
    refine w_aload_n C d_X0_ofEither_65 0 rfl ?_
    exact w_aret C A TY d_X0_ofEither_66 (Nat.le_of_ble_eq_true rfl) (Nat.le_of_ble_eq_true rfl) (⟨a1, pt1, pn1, rfl, rfl⟩)
  refine wb_if_ne C d_X0_ofEither_47 (tgt := 57) rfl (fun c_47 => ?_) (fun c_47 => ?_)
  · skip
    refine w_iconst C d_X0_ofEither_57 (v := (bI true)) rfl ?_
    refine w_goto C d_X0_ofEither_58 (tgt := 62) rfl ?_
    refine w_st (st' := [.int (bI (y1 || y2)), .ref a1]) (by rw [c_47]; rfl) ?_
    exact join_62  
  · skip
    refine w_aload_n C d_X0_ofEither_50 3 rfl ?_
    refine w_getN C d_X0_ofEither_51 fd_RX0_16 (k1) (v := .int (bI y2)) rfl ?_
    refine wb_if_eq C d_X0_ofEither_54 (tgt := 61) rfl (fun c_54 => ?_) (fun c_54 => ?_)
    · skip
      refine w_iconst C d_X0_ofEither_61 (v := (bI false)) rfl ?_
      refine w_st (st' := [.int (bI (y1 || y2)), .ref a1]) (by rw [c_47, c_54]; rfl) ?_
      exact join_62  
    · skip
      refine w_iconst C d_X0_ofEither_57 (v := (bI true)) rfl ?_
      refine w_goto C d_X0_ofEither_58 (tgt := 62) rfl ?_
      refine w_st (st' := [.int (bI (y1 || y2)), .ref a1]) (by rw [c_47, c_54]; rfl) ?_
      exact join_62  
