theorem tw_371 : (Jvm.Cond.fieldLink "Corpusline" (241 : Nat) "Corpusline$Part" "isTest" "Z") ∈ TB := tb_of 371 (by decide +kernel) rfl
theorem tw_420 : (Jvm.Cond.methodLink "Corpusline" (141 : Nat) ({ cls := "Corpusline", name := "partFromTop", desc := "(I)LCorpusline$Part;" } : Jvm.MethodName)) ∈ TB := tb_of 420 (by decide +kernel) rfl
theorem tw_422 : (Jvm.Cond.instanceMethod ({ cls := "Corpusline", name := "partFromTop", desc := "(I)LCorpusline$Part;" } : Jvm.MethodName)) ∈ TB := tb_of 422 (by decide +kernel) rfl
theorem tw_423 : (Jvm.Cond.code ({ cls := "Corpusline", name := "partFromTop", desc := "(I)LCorpusline$Part;" } : Jvm.MethodName) prog_1_method_35_code (2 : Nat) (Option.some (Jvm.ClassFile.FieldType.object "Corpusline$Part"))) ∈ TB := tb_of 423 (by decide +kernel) rfl
theorem ts_8 : Cond.selects "Corpusline" ({ cls := "Corpusline", name := "partFromTop", desc := "(I)LCorpusline$Part;" } : MethodName) ({ cls := "Corpusline", name := "partFromTop", desc := "(I)LCorpusline$Part;" } : MethodName) ∈ TB := tb_sel 8 (by decide +kernel) rfl
theorem fd_RX6_241 : fdOk RX6 241 0 5 := ⟨_, _, _, rfl, by decide, cw_0, tw_371, rfl⟩
theorem ok_RX6_141 : okV RX6 141 yX6_partFromTop cX6_partFromTop 2 (Option.some (Jvm.ClassFile.FieldType.object "Corpusline$Part")) 1 := ⟨tw_420, tw_422, ts_8, tw_1, tw_423, ⟨by decide, by decide, by decide +kernel⟩⟩
def dl_X6_testFromTop : List (Nat × Instr × Nat) := [(0, .aload_n 0, 1), (1, .iload_n 1, 1), (2, .invokevirtual 141, 3), (5, .astore_n 2, 1), (6, .aload_n 2, 1), (7, .getfield 241, 3), (10, .ifCond .ne 13, 3), (13, .new 64, 3), (16, .dup, 1), (17, .ldc 244, 2), (19, .invokespecial 68, 3), (22, .athrow, 1), (23, .aload_n 2, 1), (24, .getfield 156, 3), (27, .iconst 0, 1), (28, .aaload, 1), (29, .areturn, 1)]
theorem dc_X6_testFromTop : dnL cX6_testFromTop dl_X6_testFromTop = true := by decide +kernel
theorem d_X6_testFromTop_0 : dn cX6_testFromTop 0 (.aload_n 0) 1 1 := dnAt dc_X6_testFromTop 0 rfl rfl
theorem d_X6_testFromTop_1 : dn cX6_testFromTop 1 (.iload_n 1) 1 2 := dnAt dc_X6_testFromTop 1 rfl rfl
theorem d_X6_testFromTop_2 : dn cX6_testFromTop 2 (.invokevirtual 141) 3 5 := dnAt dc_X6_testFromTop 2 rfl rfl
theorem d_X6_testFromTop_5 : dn cX6_testFromTop 5 (.astore_n 2) 1 6 := dnAt dc_X6_testFromTop 3 rfl rfl
theorem d_X6_testFromTop_6 : dn cX6_testFromTop 6 (.aload_n 2) 1 7 := dnAt dc_X6_testFromTop 4 rfl rfl
theorem d_X6_testFromTop_7 : dn cX6_testFromTop 7 (.getfield 241) 3 10 := dnAt dc_X6_testFromTop 5 rfl rfl
theorem d_X6_testFromTop_10 : dn cX6_testFromTop 10 (.ifCond .ne 13) 3 13 := dnAt dc_X6_testFromTop 6 rfl rfl
theorem d_X6_testFromTop_13 : dn cX6_testFromTop 13 (.new 64) 3 16 := dnAt dc_X6_testFromTop 7 rfl rfl
theorem d_X6_testFromTop_16 : dn cX6_testFromTop 16 (.dup) 1 17 := dnAt dc_X6_testFromTop 8 rfl rfl
theorem d_X6_testFromTop_17 : dn cX6_testFromTop 17 (.ldc 244) 2 19 := dnAt dc_X6_testFromTop 9 rfl rfl
theorem d_X6_testFromTop_19 : dn cX6_testFromTop 19 (.invokespecial 68) 3 22 := dnAt dc_X6_testFromTop 10 rfl rfl
theorem d_X6_testFromTop_22 : dn cX6_testFromTop 22 (.athrow) 1 23 := dnAt dc_X6_testFromTop 11 rfl rfl
theorem d_X6_testFromTop_23 : dn cX6_testFromTop 23 (.aload_n 2) 1 24 := dnAt dc_X6_testFromTop 12 rfl rfl
theorem d_X6_testFromTop_24 : dn cX6_testFromTop 24 (.getfield 156) 3 27 := dnAt dc_X6_testFromTop 13 rfl rfl
theorem d_X6_testFromTop_27 : dn cX6_testFromTop 27 (.iconst 0) 1 28 := dnAt dc_X6_testFromTop 14 rfl rfl
theorem d_X6_testFromTop_28 : dn cX6_testFromTop 28 (.aaload) 1 29 := dnAt dc_X6_testFromTop 15 rfl rfl
theorem d_X6_testFromTop_29 : dn cX6_testFromTop 29 (.areturn) 1 30 := dnAt dc_X6_testFromTop 16 rfl rfl
set_option maxHeartbeats 4000000 in
set_option maxRecDepth 100000 in
theorem k_testFromTop {l : Launch} {G : eG} {ad : Nat → Nat → Nat} {h : hp} {g : mS} {o n fi la rs : Nat} {no is : Bool} {nx tt : Nat → Nat} (hlf : l.stackTraces = false) (hm : co G ad g h) (h8 : mK g 16 ≤ 8) (hpl : ∀ j, j < mK g 16 → 0 < mN g 60 j) (ho : o < 100) (T : o < mK g 16 → prt G ad h (mN g 60 (mK g 16 - 1 - o) - 1) n fi la rs no is nx tt ∧ 0 < n ∧ n < 9) : kX l G ad h yX6_testFromTop cX6_testFromTop 3 (Option.some (Jvm.ClassFile.FieldType.object "Corpusline$TokenTest")) { frames := 7, cells := 2, slots := 12, locals := 111 } [.ref (ad 0 0), .int (nI o)] (fun v9 g9 _ => v9 = some (.ref (tt 0)) ∧ g9 = g ∧ o < mK g 16 ∧ is = true) (fun E9 g9 => E9 = "java/lang/IllegalStateException" ∧ (mK g 16 ≤ o ∨ is = false) ∧ g9 = g) := by
  refine kX.of hlf hm (by decide) (Nat.le_of_ble_eq_true rfl) ?_
  intro x C A TY X
  show VC G x ad h g 0 0 0 [(0, .ref (ad 0 0)), (1, .int (nI o))] []
  refine c_aload_n C d_X6_testFromTop_0 0 rfl ?_
  refine c_iload_n C d_X6_testFromTop_1 1 rfl ?_
  refine k_callVX C X cfr_rf d_X6_testFromTop_2 ok_RX6_141 (k := 0) (i' := 0) (fun l h hl hm hf => k_partFromTop hl hm h8 hpl (by omega) ) rfl rfl rfl rfl (rest := []) rfl rfl (Nat.le_of_ble_eq_true rfl) ⟨⟨by decide, by decide⟩, Nat.le_of_ble_eq_true rfl, Nat.le_of_ble_eq_true rfl⟩ (fun _ _ e => ⟨e.1, Or.inl e.2.1, e.2.2⟩) (fun v9 g9 hq1 e9 F1 => ?_)
  obtain ⟨rfl, z1, i1⟩ := e9
  refine c_eq z1 ?_
  refine c_base F1 ?_
  show VC G x ad h g 1 6 5 [(0, .ref (ad 0 0)), (1, .int (nI o))] [.ref (mN g 60 (mK g 16 - 1 - o) - 1)]
  refine c_astore_n C d_X6_testFromTop_5 (lv' := [(2, .ref (mN g 60 (mK g 16 - 1 - o) - 1)), (0, .ref (ad 0 0)), (1, .int (nI o))]) (by decide) rfl ?_
  obtain ⟨⟨na, pt, pn, n1, n2, h1, h2, h3⟩, hn0, hn9⟩ := T i1
  refine c_aload_n C d_X6_testFromTop_6 0 rfl ?_
  refine c_getN C d_X6_testFromTop_7 fd_RX6_241 (na) (h1) (v := .int (bI is)) rfl ?_
  refine cb_if_ne C d_X6_testFromTop_10 (tgt := 23) rfl (fun c_10 => ?_) (fun c_10 => ?_)
  · skip
    refine c_aload_n C d_X6_testFromTop_23 0 rfl ?_
    refine c_getN C d_X6_testFromTop_24 fd_RX6_156 (na) (h1) (v := .ref pt) rfl ?_
    refine c_iconst C d_X6_testFromTop_27 (v := (nI 0)) rfl ?_
    refine c_aaldN C d_X6_testFromTop_28 rfl (n1) (h2) (hn0) (by omega) (if_pos hn0) ?_
    exact k_aret C A cfr_rf TY d_X6_testFromTop_29 (Nat.le_of_ble_eq_true rfl) (Nat.le_of_ble_eq_true rfl) (fun h9 F9 => ⟨rfl, rfl, i1, c_10⟩)
  · skip
    exact k_throw C X cfr_rf d_X6_testFromTop_13 d_X6_testFromTop_16 d_X6_testFromTop_17 d_X6_testFromTop_19 d_X6_testFromTop_22 th_64 (text := "the part is no test") (by decide) ⟨by decide, Nat.le_of_ble_eq_true rfl, Nat.le_of_ble_eq_true rfl, Nat.le_of_ble_eq_true rfl⟩ (⟨rfl, Or.inr c_10, rfl⟩)
