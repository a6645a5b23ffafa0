theorem tw_1 : (Jvm.Cond.initialized "Corpusline") ∈ TB := tb_of 1 (by decide +kernel) rfl
theorem tw_3 : (Jvm.Cond.initialized "Corpusline$Side") ∈ TB := tb_of 3 (by decide +kernel) rfl
theorem tw_11 : (Jvm.Cond.initialized "java/lang/IllegalStateException") ∈ TB := tb_of 11 (by decide +kernel) rfl
theorem tw_52 : (Jvm.Cond.fieldLink "Corpusline" (61 : Nat) "Corpusline$Side" "count" "I") ∈ TB := tb_of 52 (by decide +kernel) rfl
theorem tw_54 : (Jvm.Cond.fieldLink "Corpusline" (77 : Nat) "Corpusline$Side" "isSentenceEnded" "Z") ∈ TB := tb_of 54 (by decide +kernel) rfl
theorem tw_56 : (Jvm.Cond.fieldLink "Corpusline" (81 : Nat) "Corpusline$Side" "isTextEnded" "Z") ∈ TB := tb_of 56 (by decide +kernel) rfl
theorem tw_59 : (Jvm.Cond.fieldLink "Corpusline" (99 : Nat) "Corpusline$Side" "sentences" "[I") ∈ TB := tb_of 59 (by decide +kernel) rfl
theorem tw_129 : (Jvm.Cond.methodLink "Corpusline" (53 : Nat) ({ cls := "Corpusline", name := "knownSide", desc := "(I)LCorpusline$Side;" } : Jvm.MethodName)) ∈ TB := tb_of 129 (by decide +kernel) rfl
theorem tw_131 : (Jvm.Cond.instanceMethod ({ cls := "Corpusline", name := "knownSide", desc := "(I)LCorpusline$Side;" } : Jvm.MethodName)) ∈ TB := tb_of 131 (by decide +kernel) rfl
theorem tw_132 : (Jvm.Cond.code ({ cls := "Corpusline", name := "knownSide", desc := "(I)LCorpusline$Side;" } : Jvm.MethodName) prog_1_method_29_code (2 : Nat) (Option.some (Jvm.ClassFile.FieldType.object "Corpusline$Side"))) ∈ TB := tb_of 132 (by decide +kernel) rfl
theorem tw_232 : (Jvm.Cond.methodLink "Corpusline" (57 : Nat) ({ cls := "Corpusline", name := "demandRange", desc := "(III)V" } : Jvm.MethodName)) ∈ TB := tb_of 232 (by decide +kernel) rfl
theorem tw_233 : (Jvm.Cond.static ({ cls := "Corpusline", name := "demandRange", desc := "(III)V" } : Jvm.MethodName)) ∈ TB := tb_of 233 (by decide +kernel) rfl
theorem tw_234 : (Jvm.Cond.code ({ cls := "Corpusline", name := "demandRange", desc := "(III)V" } : Jvm.MethodName) prog_1_method_28_code (3 : Nat) (Option.none : Option Jvm.ClassFile.FieldType)) ∈ TB := tb_of 234 (by decide +kernel) rfl
theorem tw_251 : (Jvm.Cond.classLink "Corpusline" (64 : Nat) "java/lang/IllegalStateException") ∈ TB := tb_of 251 (by decide +kernel) rfl
theorem tw_267 : (Jvm.Cond.methodLink "Corpusline" (71 : Nat) ({ cls := "Corpusline$Side", name := "append", desc := "(III)I" } : Jvm.MethodName)) ∈ TB := tb_of 267 (by decide +kernel) rfl
theorem tw_268 : (Jvm.Cond.instanceMethod ({ cls := "Corpusline$Side", name := "append", desc := "(III)I" } : Jvm.MethodName)) ∈ TB := tb_of 268 (by decide +kernel) rfl
theorem tw_269 : (Jvm.Cond.selects "Corpusline$Side" ({ cls := "Corpusline$Side", name := "append", desc := "(III)I" } : Jvm.MethodName) ({ cls := "Corpusline$Side", name := "append", desc := "(III)I" } : Jvm.MethodName)) ∈ TB := tb_of 269 (by decide +kernel) rfl
theorem tw_270 : (Jvm.Cond.code ({ cls := "Corpusline$Side", name := "append", desc := "(III)I" } : Jvm.MethodName) prog_5_method_2_code (5 : Nat) (Option.some Jvm.ClassFile.FieldType.int)) ∈ TB := tb_of 270 (by decide +kernel) rfl
theorem tw_275 : (Jvm.Cond.methodLink "Corpusline" (102 : Nat) ({ cls := "Corpusline$Side", name := "valueAt", desc := "(II)I" } : Jvm.MethodName)) ∈ TB := tb_of 275 (by decide +kernel) rfl
theorem tw_276 : (Jvm.Cond.instanceMethod ({ cls := "Corpusline$Side", name := "valueAt", desc := "(II)I" } : Jvm.MethodName)) ∈ TB := tb_of 276 (by decide +kernel) rfl
theorem tw_277 : (Jvm.Cond.selects "Corpusline$Side" ({ cls := "Corpusline$Side", name := "valueAt", desc := "(II)I" } : Jvm.MethodName) ({ cls := "Corpusline$Side", name := "valueAt", desc := "(II)I" } : Jvm.MethodName)) ∈ TB := tb_of 277 (by decide +kernel) rfl
theorem tw_278 : (Jvm.Cond.code ({ cls := "Corpusline$Side", name := "valueAt", desc := "(II)I" } : Jvm.MethodName) prog_5_method_3_code (3 : Nat) (Option.some Jvm.ClassFile.FieldType.int)) ∈ TB := tb_of 278 (by decide +kernel) rfl
theorem ts_0 : Cond.selects "Corpusline" ({ cls := "Corpusline", name := "knownSide", desc := "(I)LCorpusline$Side;" } : MethodName) ({ cls := "Corpusline", name := "knownSide", desc := "(I)LCorpusline$Side;" } : MethodName) ∈ TB := tb_sel 0 (by decide +kernel) rfl
theorem fd_RX6_61 : fdOk RX6 61 2 0 := ⟨_, _, _, rfl, by decide, cw_2, tw_52, rfl⟩
theorem fd_RX6_81 : fdOk RX6 81 2 2 := ⟨_, _, _, rfl, by decide, cw_2, tw_56, rfl⟩
theorem fd_RX6_99 : fdOk RX6 99 2 4 := ⟨_, _, _, rfl, by decide, cw_2, tw_59, rfl⟩
theorem pf_RX6_77 : pfOk RX6 77 2 1 .boolean false := ⟨_, _, _, tyX3, rfl, by decide, cw_2, tw_54, rfl, tyX3_ok, nmX3, rfl, by decide +kernel⟩
theorem pf_RX6_81 : pfOk RX6 81 2 2 .boolean false := ⟨_, _, _, tyX3, rfl, by decide, cw_2, tw_56, rfl, tyX3_ok, nmX3, rfl, by decide +kernel⟩
theorem ok_RX6_57 : okS RX6 57 yX6_demandRange cX6_demandRange 3 (Option.none : Option Jvm.ClassFile.FieldType) 3 := ⟨tw_232, tw_233, tw_1, tw_234, ⟨by decide, by decide, by decide +kernel⟩⟩
theorem ok_RX6_53 : okV RX6 53 yX6_knownSide cX6_knownSide 2 (Option.some (Jvm.ClassFile.FieldType.object "Corpusline$Side")) 1 := ⟨tw_129, tw_131, ts_0, tw_1, tw_132, ⟨by decide, by decide, by decide +kernel⟩⟩
theorem ok_RX6_71 : okV RX6 71 yX3_append cX3_append 5 (Option.some Jvm.ClassFile.FieldType.int) 3 := ⟨tw_267, tw_268, tw_269, tw_3, tw_270, ⟨by decide, by decide, by decide +kernel⟩⟩
theorem ok_RX6_102 : okV RX6 102 yX3_valueAt cX3_valueAt 3 (Option.some Jvm.ClassFile.FieldType.int) 2 := ⟨tw_275, tw_276, tw_277, tw_3, tw_278, ⟨by decide, by decide, by decide +kernel⟩⟩
theorem th_64 : thOk 64 68 "java/lang/IllegalStateException" := ⟨by decide +kernel, tw_251, tw_11, by decide +kernel, by decide +kernel, by decide +kernel⟩
theorem cToken_2 {S : mS} {side word kind root : Int32} (h : inR side 0 1 = true) (h2 : inR word 0 99 = false ∨ inR kind 0 9 = false ∨ inR root 0 49 = false) : cToken S side word kind root = 2 := by
  rw [cToken, if_pos h, if_neg (by intro z; simp only [Bool.and_eq_true] at z; rcases h2 with e | e | e <;> simp [e] at z)]
theorem cSide_1 {side : Int32} (h : inR side 0 1 = false) : cSide side = 1 := by rw [cSide, if_neg (by rw [h]; decide)]
theorem cSide_0 {side : Int32} (h : inR side 0 1 = true) : cSide side = 0 := by rw [cSide, if_pos h]
/-- a place on a side -/
theorem cSent_0 {S : mS} {side place : Int32} (h : inR side 0 1 = true) (h2 : inI place (nI 0) (nI (mN S 1 (tn side)) - nI 1) = true) : cSent S side place = 0 := by rw [cSent, if_pos (by rw [h, h2]; rfl)]
theorem inI_Tm {v : Int32} {m : Nat} (h1 : ¬ v < 0) (h2 : v < nI m) (hm : m ≤ 1000) : inI v (nI 0) (nI m - nI 1) = true := by
  obtain ⟨j, hj, rfl⟩ := nI_of h1
  have h3 := (nI_ltI (by omega) (by omega)).mp h2
  rw [pk_sub (by omega)]
  refine inI_T h1 (fun c => ?_)
  have h4 := (nI_ltI (by omega) (by omega)).mp c
  omega
theorem inI_Fm {v : Int32} {m : Nat} (h : v < 0 ∨ ¬ v < nI m) (hm : m ≤ 1000) : inI v (nI 0) (nI m - nI 1) = false := by
  cases e : inI v (nI 0) (nI m - nI 1) with
  | false => rfl
  | true =>
    obtain ⟨e1, e2⟩ := inI_of hm e
    rcases h with c | c
    · rw [e1] at c; exact absurd c (nI_pos (by omega))
    · exact absurd ((nI_ltI (by omega) (by omega)).mpr e2) (by rw [← e1]; exact c)
def dl_X6_tokens : List (Nat × Instr × Nat) := [(0, .aload_n 0, 1), (1, .iload_n 1, 1), (2, .invokevirtual 53, 3), (5, .getfield 61, 3), (8, .ireturn, 1)]
theorem dc_X6_tokens : dnL cX6_tokens dl_X6_tokens = true := by decide +kernel
theorem d_X6_tokens_0 : dn cX6_tokens 0 (.aload_n 0) 1 1 := dnAt dc_X6_tokens 0 rfl rfl
theorem d_X6_tokens_1 : dn cX6_tokens 1 (.iload_n 1) 1 2 := dnAt dc_X6_tokens 1 rfl rfl
theorem d_X6_tokens_2 : dn cX6_tokens 2 (.invokevirtual 53) 3 5 := dnAt dc_X6_tokens 2 rfl rfl
theorem d_X6_tokens_5 : dn cX6_tokens 5 (.getfield 61) 3 8 := dnAt dc_X6_tokens 3 rfl rfl
theorem d_X6_tokens_8 : dn cX6_tokens 8 (.ireturn) 1 9 := dnAt dc_X6_tokens 4 rfl rfl
set_option maxHeartbeats 4000000 in
set_option maxRecDepth 100000 in
theorem k_tokens {l : Launch} {G : eG} {ad : Nat → Nat → Nat} {h : hp} {g : mS} {side : Int32} (hlf : l.stackTraces = false) (hm : co G ad g h) : kX l G ad h yX6_tokens cX6_tokens 2 (Option.some Jvm.ClassFile.FieldType.int) { frames := 7, cells := 1, slots := 6, locals := 111 } [.ref (ad 0 0), .int side] (fun v9 g9 _ => v9 = some (.int (nI (rTokens g side))) ∧ g9 = g ∧ cSide side = 0) (fun E9 g9 => (E9 = "java/lang/IndexOutOfBoundsException" ∧ cSide side = 1) ∧ g9 = g) := by
  refine kX.of hlf hm (by decide) (Nat.le_of_ble_eq_true rfl) ?_
  intro x C A TY X
  show VC G x ad h g 0 0 0 [(0, .ref (ad 0 0)), (1, .int side)] []
  refine c_aload_n C d_X6_tokens_0 0 rfl ?_
  refine c_iload_n C d_X6_tokens_1 1 rfl ?_
  refine k_callVX C X cfr_rf d_X6_tokens_2 ok_RX6_53 (k := 0) (i' := 0) (fun l h hl hm hf => k_knownSide hl hm side) rfl rfl rfl rfl (rest := []) rfl rfl (Nat.le_of_ble_eq_true rfl) ⟨⟨by decide, by decide⟩, Nat.le_of_ble_eq_true rfl, Nat.le_of_ble_eq_true rfl⟩ (fun _ _ e => ⟨⟨e.1, cSide_1 e.2.1⟩, e.2.2⟩) (fun v9 g9 hq1 e9 F1 => ?_)
  obtain ⟨rfl, z1, i1⟩ := e9
  refine c_eq z1 ?_
  obtain ⟨j1, -, s1⟩ := inR_of i1 (by decide) (by decide)
  refine c_base F1 ?_
  show VC G x ad h g 1 6 5 [(0, .ref (ad 0 0)), (1, .int side)] [.ref (ad 10 (tn side))]
  refine c_get C d_X6_tokens_5 fd_RX6_61 (k := 10) (i' := tn side) (decide_eq_true (by omega)) rfl (v := .int (nI (mN g 1 (tn side)))) rfl ?_
  exact k_iret C A cfr_rf TY d_X6_tokens_8 rfl (Nat.le_of_ble_eq_true rfl) (Nat.le_of_ble_eq_true rfl) (fun h9 F9 => ⟨by rw [rTokens, if_pos i1], rfl, cSide_0 i1⟩)
def dl_X6_sentenceOf : List (Nat × Instr × Nat) := [(0, .aload_n 0, 1), (1, .iload_n 1, 1), (2, .invokevirtual 53, 3), (5, .astore_n 3, 1), (6, .iload_n 2, 1), (7, .ifCond .lt 11, 3), (10, .iload_n 2, 1), (11, .aload_n 3, 1), (12, .getfield 61, 3), (15, .if_icmp .lt 13, 3), (18, .new 88, 3), (21, .dup, 1), (22, .ldc 97, 2), (24, .invokespecial 92, 3), (27, .athrow, 1), (28, .aload_n 3, 1), (29, .getfield 99, 3), (32, .iload_n 2, 1), (33, .iaload, 1), (34, .ireturn, 1)]
theorem dc_X6_sentenceOf : dnL cX6_sentenceOf dl_X6_sentenceOf = true := by decide +kernel
theorem d_X6_sentenceOf_0 : dn cX6_sentenceOf 0 (.aload_n 0) 1 1 := dnAt dc_X6_sentenceOf 0 rfl rfl
theorem d_X6_sentenceOf_1 : dn cX6_sentenceOf 1 (.iload_n 1) 1 2 := dnAt dc_X6_sentenceOf 1 rfl rfl
theorem d_X6_sentenceOf_2 : dn cX6_sentenceOf 2 (.invokevirtual 53) 3 5 := dnAt dc_X6_sentenceOf 2 rfl rfl
theorem d_X6_sentenceOf_5 : dn cX6_sentenceOf 5 (.astore_n 3) 1 6 := dnAt dc_X6_sentenceOf 3 rfl rfl
theorem d_X6_sentenceOf_6 : dn cX6_sentenceOf 6 (.iload_n 2) 1 7 := dnAt dc_X6_sentenceOf 4 rfl rfl
theorem d_X6_sentenceOf_7 : dn cX6_sentenceOf 7 (.ifCond .lt 11) 3 10 := dnAt dc_X6_sentenceOf 5 rfl rfl
theorem d_X6_sentenceOf_10 : dn cX6_sentenceOf 10 (.iload_n 2) 1 11 := dnAt dc_X6_sentenceOf 6 rfl rfl
theorem d_X6_sentenceOf_11 : dn cX6_sentenceOf 11 (.aload_n 3) 1 12 := dnAt dc_X6_sentenceOf 7 rfl rfl
theorem d_X6_sentenceOf_12 : dn cX6_sentenceOf 12 (.getfield 61) 3 15 := dnAt dc_X6_sentenceOf 8 rfl rfl
theorem d_X6_sentenceOf_15 : dn cX6_sentenceOf 15 (.if_icmp .lt 13) 3 18 := dnAt dc_X6_sentenceOf 9 rfl rfl
theorem d_X6_sentenceOf_18 : dn cX6_sentenceOf 18 (.new 88) 3 21 := dnAt dc_X6_sentenceOf 10 rfl rfl
theorem d_X6_sentenceOf_21 : dn cX6_sentenceOf 21 (.dup) 1 22 := dnAt dc_X6_sentenceOf 11 rfl rfl
theorem d_X6_sentenceOf_22 : dn cX6_sentenceOf 22 (.ldc 97) 2 24 := dnAt dc_X6_sentenceOf 12 rfl rfl
theorem d_X6_sentenceOf_24 : dn cX6_sentenceOf 24 (.invokespecial 92) 3 27 := dnAt dc_X6_sentenceOf 13 rfl rfl
theorem d_X6_sentenceOf_27 : dn cX6_sentenceOf 27 (.athrow) 1 28 := dnAt dc_X6_sentenceOf 14 rfl rfl
theorem d_X6_sentenceOf_28 : dn cX6_sentenceOf 28 (.aload_n 3) 1 29 := dnAt dc_X6_sentenceOf 15 rfl rfl
theorem d_X6_sentenceOf_29 : dn cX6_sentenceOf 29 (.getfield 99) 3 32 := dnAt dc_X6_sentenceOf 16 rfl rfl
theorem d_X6_sentenceOf_32 : dn cX6_sentenceOf 32 (.iload_n 2) 1 33 := dnAt dc_X6_sentenceOf 17 rfl rfl
theorem d_X6_sentenceOf_33 : dn cX6_sentenceOf 33 (.iaload) 1 34 := dnAt dc_X6_sentenceOf 18 rfl rfl
theorem d_X6_sentenceOf_34 : dn cX6_sentenceOf 34 (.ireturn) 1 35 := dnAt dc_X6_sentenceOf 19 rfl rfl
set_option maxHeartbeats 4000000 in
set_option maxRecDepth 100000 in
theorem k_sentenceOf {l : Launch} {G : eG} {ad : Nat → Nat → Nat} {h : hp} {g : mS} {side place : Int32} (hlf : l.stackTraces = false) (hm : co G ad g h) (I : mInv g) : kX l G ad h yX6_sentenceOf cX6_sentenceOf 4 (Option.some Jvm.ClassFile.FieldType.int) { frames := 7, cells := 2, slots := 12, locals := 111 } [.ref (ad 0 0), .int side, .int place] (fun v9 g9 _ => v9 = some (.int (nI (rSent g side place))) ∧ g9 = g ∧ cSent g side place = 0) (fun E9 g9 => (E9 = "java/lang/IndexOutOfBoundsException" ∧ cSent g side place = 1) ∧ g9 = g) := by
  refine kX.of hlf hm (by decide) (Nat.le_of_ble_eq_true rfl) ?_
  intro x C A TY X
  show VC G x ad h g 0 0 0 [(0, .ref (ad 0 0)), (1, .int side), (2, .int place)] []
  refine c_aload_n C d_X6_sentenceOf_0 0 rfl ?_
  refine c_iload_n C d_X6_sentenceOf_1 1 rfl ?_
  refine k_callVX C X cfr_rf d_X6_sentenceOf_2 ok_RX6_53 (k := 0) (i' := 0) (fun l h hl hm hf => k_knownSide hl hm side) rfl rfl rfl rfl (rest := []) rfl rfl (Nat.le_of_ble_eq_true rfl) ⟨⟨by decide, by decide⟩, Nat.le_of_ble_eq_true rfl, Nat.le_of_ble_eq_true rfl⟩ (fun _ _ e => ⟨⟨e.1, by rw [cSent, if_neg (by rw [e.2.1]; exact Bool.false_ne_true)]⟩, e.2.2⟩) (fun v9 g9 hq1 e9 F1 => ?_)
  obtain ⟨rfl, z1, i1⟩ := e9
  refine c_eq z1 ?_
  obtain ⟨j1, -, s1⟩ := inR_of i1 (by decide) (by decide)
  refine c_base F1 ?_
  show VC G x ad h g 1 6 5 [(0, .ref (ad 0 0)), (1, .int side), (2, .int place)] [.ref (ad 10 (tn side))]
  have hc := I.1 (tn side) (by omega)
  refine c_astore_n C d_X6_sentenceOf_5 (lv' := [(3, .ref (ad 10 (tn side))), (0, .ref (ad 0 0)), (1, .int side), (2, .int place)]) (by decide) rfl ?_
  refine c_iload_n C d_X6_sentenceOf_6 3 rfl ?_
  refine c_if_lt C d_X6_sentenceOf_7 (tgt := 18) rfl (fun c_7 => ?_) (fun c_7 => ?_)
  · skip
    exact k_throw C X cfr_rf d_X6_sentenceOf_18 d_X6_sentenceOf_21 d_X6_sentenceOf_22 d_X6_sentenceOf_24 d_X6_sentenceOf_27 th_88 (text := "no such token") (by decide) ⟨by decide, Nat.le_of_ble_eq_true rfl, Nat.le_of_ble_eq_true rfl, Nat.le_of_ble_eq_true rfl⟩ (⟨⟨rfl, by rw [cSent, if_neg (by rw [inI_Fm (Or.inl c_7) (by omega), Bool.and_false]; decide)]⟩, rfl⟩)
  · skip
    refine c_iload_n C d_X6_sentenceOf_10 3 rfl ?_
    refine c_aload_n C d_X6_sentenceOf_11 0 rfl ?_
    refine c_get C d_X6_sentenceOf_12 fd_RX6_61 (k := 10) (i' := tn side) (decide_eq_true (by omega)) rfl (v := .int (nI (mN g 1 (tn side)))) rfl ?_
    refine c_icmp_lt C d_X6_sentenceOf_15 (tgt := 28) rfl (fun c_15 => ?_) (fun c_15 => ?_)
    · skip
      have i2 := inI_Tm c_7 c_15 (by omega)
      obtain ⟨j2, s2⟩ := inI_of (by omega) i2
      have z0 := cSent_0 i1 i2
      refine c_lve (lv' := [(3, .ref (ad 10 (tn side))), (0, .ref (ad 0 0)), (1, .int side), (2, .int (nI (tn place)))]) (by rw [← j2]) ?_
      refine c_aload_n C d_X6_sentenceOf_28 0 rfl ?_
      refine c_get C d_X6_sentenceOf_29 fd_RX6_99 (k := 10) (i' := tn side) (decide_eq_true (by omega)) rfl (v := .ref (ad 12 (tn side))) rfl ?_
      refine c_iload_n C d_X6_sentenceOf_32 3 rfl ?_
      refine c_ald C d_X6_sentenceOf_33 (k := 12) (i := tn side) (decide_eq_true (by omega)) rfl (by show _ < 40; omega) ?_
      refine c_st (st' := [.int (nI (rSent g side place))]) (by rw [rSent, if_pos z0]) ?_
      exact k_iret C A cfr_rf TY d_X6_sentenceOf_34 rfl (Nat.le_of_ble_eq_true rfl) (Nat.le_of_ble_eq_true rfl) (fun h9 F9 => ⟨rfl, rfl, z0⟩)
    · skip
      exact k_throw C X cfr_rf d_X6_sentenceOf_18 d_X6_sentenceOf_21 d_X6_sentenceOf_22 d_X6_sentenceOf_24 d_X6_sentenceOf_27 th_88 (text := "no such token") (by decide) ⟨by decide, Nat.le_of_ble_eq_true rfl, Nat.le_of_ble_eq_true rfl, Nat.le_of_ble_eq_true rfl⟩ (⟨⟨rfl, by rw [cSent, if_neg (by rw [inI_Fm (Or.inr c_15) (by omega), Bool.and_false]; decide)]⟩, rfl⟩)
def dl_X6_end : List (Nat × Instr × Nat) := [(0, .aload_n 0, 1), (1, .iload_n 1, 1), (2, .invokevirtual 53, 3), (5, .astore_n 3, 1), (6, .aload_n 3, 1), (7, .getfield 61, 3), (10, .ifCond .ne 13, 3), (13, .new 64, 3), (16, .dup, 1), (17, .ldc 75, 2), (19, .invokespecial 68, 3), (22, .athrow, 1), (23, .aload_n 3, 1), (24, .iconst 1, 1), (25, .putfield 77, 3), (28, .aload_n 3, 1), (29, .aload_n 3, 1), (30, .getfield 81, 3), (33, .ifCond .ne 7, 3), (36, .iload_n 2, 1), (37, .ifCond .eq 7, 3), (40, .iconst 1, 1), (41, .goto 4, 3), (44, .iconst 0, 1), (45, .putfield 81, 3), (48, .aload_n 3, 1), (49, .getfield 61, 3), (52, .ireturn, 1)]
theorem dc_X6_end : dnL cX6_end dl_X6_end = true := by decide +kernel
theorem d_X6_end_0 : dn cX6_end 0 (.aload_n 0) 1 1 := dnAt dc_X6_end 0 rfl rfl
theorem d_X6_end_1 : dn cX6_end 1 (.iload_n 1) 1 2 := dnAt dc_X6_end 1 rfl rfl
theorem d_X6_end_2 : dn cX6_end 2 (.invokevirtual 53) 3 5 := dnAt dc_X6_end 2 rfl rfl
theorem d_X6_end_5 : dn cX6_end 5 (.astore_n 3) 1 6 := dnAt dc_X6_end 3 rfl rfl
theorem d_X6_end_6 : dn cX6_end 6 (.aload_n 3) 1 7 := dnAt dc_X6_end 4 rfl rfl
theorem d_X6_end_7 : dn cX6_end 7 (.getfield 61) 3 10 := dnAt dc_X6_end 5 rfl rfl
theorem d_X6_end_10 : dn cX6_end 10 (.ifCond .ne 13) 3 13 := dnAt dc_X6_end 6 rfl rfl
theorem d_X6_end_13 : dn cX6_end 13 (.new 64) 3 16 := dnAt dc_X6_end 7 rfl rfl
theorem d_X6_end_16 : dn cX6_end 16 (.dup) 1 17 := dnAt dc_X6_end 8 rfl rfl
theorem d_X6_end_17 : dn cX6_end 17 (.ldc 75) 2 19 := dnAt dc_X6_end 9 rfl rfl
theorem d_X6_end_19 : dn cX6_end 19 (.invokespecial 68) 3 22 := dnAt dc_X6_end 10 rfl rfl
theorem d_X6_end_22 : dn cX6_end 22 (.athrow) 1 23 := dnAt dc_X6_end 11 rfl rfl
theorem d_X6_end_23 : dn cX6_end 23 (.aload_n 3) 1 24 := dnAt dc_X6_end 12 rfl rfl
theorem d_X6_end_24 : dn cX6_end 24 (.iconst 1) 1 25 := dnAt dc_X6_end 13 rfl rfl
theorem d_X6_end_25 : dn cX6_end 25 (.putfield 77) 3 28 := dnAt dc_X6_end 14 rfl rfl
theorem d_X6_end_28 : dn cX6_end 28 (.aload_n 3) 1 29 := dnAt dc_X6_end 15 rfl rfl
theorem d_X6_end_29 : dn cX6_end 29 (.aload_n 3) 1 30 := dnAt dc_X6_end 16 rfl rfl
theorem d_X6_end_30 : dn cX6_end 30 (.getfield 81) 3 33 := dnAt dc_X6_end 17 rfl rfl
theorem d_X6_end_33 : dn cX6_end 33 (.ifCond .ne 7) 3 36 := dnAt dc_X6_end 18 rfl rfl
theorem d_X6_end_36 : dn cX6_end 36 (.iload_n 2) 1 37 := dnAt dc_X6_end 19 rfl rfl
theorem d_X6_end_37 : dn cX6_end 37 (.ifCond .eq 7) 3 40 := dnAt dc_X6_end 20 rfl rfl
theorem d_X6_end_40 : dn cX6_end 40 (.iconst 1) 1 41 := dnAt dc_X6_end 21 rfl rfl
theorem d_X6_end_41 : dn cX6_end 41 (.goto 4) 3 44 := dnAt dc_X6_end 22 rfl rfl
theorem d_X6_end_44 : dn cX6_end 44 (.iconst 0) 1 45 := dnAt dc_X6_end 23 rfl rfl
theorem d_X6_end_45 : dn cX6_end 45 (.putfield 81) 3 48 := dnAt dc_X6_end 24 rfl rfl
theorem d_X6_end_48 : dn cX6_end 48 (.aload_n 3) 1 49 := dnAt dc_X6_end 25 rfl rfl
theorem d_X6_end_49 : dn cX6_end 49 (.getfield 61) 3 52 := dnAt dc_X6_end 26 rfl rfl
theorem d_X6_end_52 : dn cX6_end 52 (.ireturn) 1 53 := dnAt dc_X6_end 27 rfl rfl
set_option maxHeartbeats 4000000 in
set_option maxRecDepth 100000 in
theorem k_end {l : Launch} {G : eG} {ad : Nat → Nat → Nat} {h : hp} {g : mS} {side : Int32} {t : Bool} (hlf : l.stackTraces = false) (hm : co G ad g h) (I : mInv g) : kX l G ad h yX6_end cX6_end 4 (Option.some Jvm.ClassFile.FieldType.int) { frames := 7, cells := 2, slots := 12, locals := 111 } [.ref (ad 0 0), .int side, .int (bI t)] (fun v9 g9 _ => v9 = some (.int (nI (rEnd g side))) ∧ g9 = uB (uB g 5 (tn side) true) 6 (tn side) (mB g 6 (tn side) || t) ∧ cEnd g side = 0) (fun E9 g9 => (E9 = "java/lang/IndexOutOfBoundsException" ∧ cEnd g side = 1 ∨ E9 = "java/lang/IllegalStateException" ∧ cEnd g side = 2) ∧ g9 = g) := by
  refine kX.of hlf hm (by decide) (Nat.le_of_ble_eq_true rfl) ?_
  intro x C A TY X
  show VC G x ad h g 0 0 0 [(0, .ref (ad 0 0)), (1, .int side), (2, .int (bI t))] []
  refine c_aload_n C d_X6_end_0 0 rfl ?_
  refine c_iload_n C d_X6_end_1 1 rfl ?_
  refine k_callVX C X cfr_rf d_X6_end_2 ok_RX6_53 (k := 0) (i' := 0) (fun l h hl hm hf => k_knownSide hl hm side) rfl rfl rfl rfl (rest := []) rfl rfl (Nat.le_of_ble_eq_true rfl) ⟨⟨by decide, by decide⟩, Nat.le_of_ble_eq_true rfl, Nat.le_of_ble_eq_true rfl⟩ (fun _ _ e => ⟨Or.inl ⟨e.1, by rw [cEnd, if_neg (by rw [e.2.1]; decide)]⟩, e.2.2⟩) (fun v9 g9 hq1 e9 F1 => ?_)
  obtain ⟨rfl, z1, i1⟩ := e9
  refine c_eq z1 ?_
  obtain ⟨j1, -, s1⟩ := inR_of i1 (by decide) (by decide)
  refine c_base F1 ?_
  show VC G x ad h g 1 6 5 [(0, .ref (ad 0 0)), (1, .int side), (2, .int (bI t))] [.ref (ad 10 (tn side))]
  have hc := I.1 (tn side) (by omega)
  refine c_astore_n C d_X6_end_5 (lv' := [(3, .ref (ad 10 (tn side))), (0, .ref (ad 0 0)), (1, .int side), (2, .int (bI t))]) (by decide) rfl ?_
  refine c_aload_n C d_X6_end_6 0 rfl ?_
  refine c_get C d_X6_end_7 fd_RX6_61 (k := 10) (i' := tn side) (decide_eq_true (by omega)) rfl (v := .int (nI (mN g 1 (tn side)))) rfl ?_
  refine cn_if_ne C d_X6_end_10 (tgt := 23) rfl (by omega) (fun c_10 => ?_) (fun c_10 => ?_)
  · skip
    have z0 : cEnd g side = 0 := by rw [cEnd, if_pos i1, if_neg (by omega)]
    refine c_aload_n C d_X6_end_23 0 rfl ?_
    refine c_iconst C d_X6_end_24 (v := (bI true)) rfl ?_
    refine c_put C d_X6_end_25 pf_RX6_77 (k := 10) (i' := tn side) (g' := uB g 5 (tn side) true) (decide_eq_true (by omega)) rfl (bI_nar _) (bI_fit _) (Nat.le_of_ble_eq_true rfl) rfl (by simp only [ce, cSideO, mN_uN, mB_uB, mN_uB, mB_uN, List.set_cons_zero, List.set_cons_succ, and_self, and_true, true_and, if_true, if_false, (by decide : ¬ (6:Nat) = 5), (by decide : ¬ (5:Nat) = 6)]; try rfl) (oth_B (Or.inr (Or.inr (Or.inl ⟨Or.inl rfl, rfl, rfl⟩)))) ?_
    refine c_aload_n C d_X6_end_28 0 rfl ?_
    refine c_aload_n C d_X6_end_29 0 rfl ?_
    refine c_get C d_X6_end_30 fd_RX6_81 (k := 10) (i' := tn side) (decide_eq_true (by omega)) rfl (v := .int (bI (mB (uB g 5 (tn side) true) 6 (tn side)))) rfl ?_
    refine c_st (st' := [.int (bI (mB g 6 (tn side))), .ref (ad 10 (tn side))]) (by first | rfl | simp only [mN_uN, mB_uB, mK_uK, and_self, if_true]) ?_
    have join_45 : VC G x ad h (uB g 5 (tn side) true) 1 6 45 [(3, .ref (ad 10 (tn side))), (0, .ref (ad 0 0)), (1, .int side), (2, .int (bI t))] [.int (bI (mB g 6 (tn side) || t)), .ref (ad 10 (tn side))] := by
      refine c_put C d_X6_end_45 pf_RX6_81 (k := 10) (i' := tn side) (g' := uB (uB g 5 (tn side) true) 6 (tn side) (mB g 6 (tn side) || t)) (decide_eq_true (by omega)) rfl (bI_nar _) (bI_fit _) (Nat.le_of_ble_eq_true rfl) rfl (by simp only [ce, cSideO, mN_uN, mB_uB, mN_uB, mB_uN, List.set_cons_zero, List.set_cons_succ, and_self, and_true, true_and, if_true, if_false, (by decide : ¬ (6:Nat) = 5), (by decide : ¬ (5:Nat) = 6)]; try rfl) (oth_B (Or.inr (Or.inr (Or.inl ⟨Or.inr rfl, rfl, rfl⟩)))) ?_
      refine c_aload_n C d_X6_end_48 0 rfl ?_
      refine c_get C d_X6_end_49 fd_RX6_61 (k := 10) (i' := tn side) (decide_eq_true (by omega)) rfl (v := .int (nI (mN (uB (uB g 5 (tn side) true) 6 (tn side) (mB g 6 (tn side) || t)) 1 (tn side)))) rfl ?_
      refine c_st (st' := [.int (nI (mN g 1 (tn side)))]) (by first | rfl | simp only [mN_uN, mB_uB, mK_uK, and_self, if_true]) ?_
      refine c_st (st' := [.int (nI (rEnd g side))]) (by rw [rEnd, if_pos z0]) ?_
      exact k_iret C A cfr_rf TY d_X6_end_52 rfl (Nat.le_of_ble_eq_true rfl) (Nat.le_of_ble_eq_true rfl) (fun h9 F9 => ⟨rfl, rfl, z0⟩)
    refine cb_if_ne C d_X6_end_33 (tgt := 40) rfl (fun c_33 => ?_) (fun c_33 => ?_)
    · skip
      refine c_iconst C d_X6_end_40 (v := (bI true)) rfl ?_
      refine c_goto C d_X6_end_41 (tgt := 45) rfl ?_
      refine c_st (st' := [.int (bI (mB g 6 (tn side) || t)), .ref (ad 10 (tn side))]) (by rw [c_33]; rfl) ?_
      exact join_45  
    · skip
      refine c_iload_n C d_X6_end_36 3 rfl ?_
      refine cb_if_eq C d_X6_end_37 (tgt := 44) rfl (fun c_37 => ?_) (fun c_37 => ?_)
      · skip
        refine c_iconst C d_X6_end_44 (v := (bI false)) rfl ?_
        refine c_st (st' := [.int (bI (mB g 6 (tn side) || t)), .ref (ad 10 (tn side))]) (by rw [c_33, c_37]; rfl) ?_
        exact join_45  
      · skip
        refine c_iconst C d_X6_end_40 (v := (bI true)) rfl ?_
        refine c_goto C d_X6_end_41 (tgt := 45) rfl ?_
        refine c_st (st' := [.int (bI (mB g 6 (tn side) || t)), .ref (ad 10 (tn side))]) (by rw [c_33, c_37]; rfl) ?_
        exact join_45  
  · skip
    exact k_throw C X cfr_rf d_X6_end_13 d_X6_end_16 d_X6_end_17 d_X6_end_19 d_X6_end_22 th_64 (text := "the side has no tokens") (by decide) ⟨by decide, Nat.le_of_ble_eq_true rfl, Nat.le_of_ble_eq_true rfl, Nat.le_of_ble_eq_true rfl⟩ (⟨Or.inr (⟨rfl, by rw [cEnd, if_pos i1, if_pos c_10]⟩), rfl⟩)
def dl_X6_token : List (Nat × Instr × Nat) := [(0, .aload_n 0, 1), (1, .iload_n 1, 1), (2, .invokevirtual 53, 3), (5, .astore 5, 2), (7, .iload_n 2, 1), (8, .iconst 0, 1), (9, .bipush 99, 2), (11, .invokestatic 57, 3), (14, .iload_n 3, 1), (15, .iconst 0, 1), (16, .bipush 9, 2), (18, .invokestatic 57, 3), (21, .iload 4, 2), (23, .iconst 0, 1), (24, .bipush 49, 2), (26, .invokestatic 57, 3), (29, .aload 5, 2), (31, .getfield 61, 3), (34, .bipush 40, 2), (36, .if_icmp .lt 13, 3), (39, .new 64, 3), (42, .dup, 1), (43, .ldc 66, 2), (45, .invokespecial 68, 3), (48, .athrow, 1), (49, .aload 5, 2), (51, .iload_n 2, 1), (52, .iload_n 3, 1), (53, .iload 4, 2), (55, .invokevirtual 71, 3), (58, .ireturn, 1)]
theorem dc_X6_token : dnL cX6_token dl_X6_token = true := by decide +kernel
theorem d_X6_token_0 : dn cX6_token 0 (.aload_n 0) 1 1 := dnAt dc_X6_token 0 rfl rfl
theorem d_X6_token_1 : dn cX6_token 1 (.iload_n 1) 1 2 := dnAt dc_X6_token 1 rfl rfl
theorem d_X6_token_2 : dn cX6_token 2 (.invokevirtual 53) 3 5 := dnAt dc_X6_token 2 rfl rfl
theorem d_X6_token_5 : dn cX6_token 5 (.astore 5) 2 7 := dnAt dc_X6_token 3 rfl rfl
theorem d_X6_token_7 : dn cX6_token 7 (.iload_n 2) 1 8 := dnAt dc_X6_token 4 rfl rfl
theorem d_X6_token_8 : dn cX6_token 8 (.iconst 0) 1 9 := dnAt dc_X6_token 5 rfl rfl
theorem d_X6_token_9 : dn cX6_token 9 (.bipush 99) 2 11 := dnAt dc_X6_token 6 rfl rfl
theorem d_X6_token_11 : dn cX6_token 11 (.invokestatic 57) 3 14 := dnAt dc_X6_token 7 rfl rfl
theorem d_X6_token_14 : dn cX6_token 14 (.iload_n 3) 1 15 := dnAt dc_X6_token 8 rfl rfl
theorem d_X6_token_15 : dn cX6_token 15 (.iconst 0) 1 16 := dnAt dc_X6_token 9 rfl rfl
theorem d_X6_token_16 : dn cX6_token 16 (.bipush 9) 2 18 := dnAt dc_X6_token 10 rfl rfl
theorem d_X6_token_18 : dn cX6_token 18 (.invokestatic 57) 3 21 := dnAt dc_X6_token 11 rfl rfl
theorem d_X6_token_21 : dn cX6_token 21 (.iload 4) 2 23 := dnAt dc_X6_token 12 rfl rfl
theorem d_X6_token_23 : dn cX6_token 23 (.iconst 0) 1 24 := dnAt dc_X6_token 13 rfl rfl
theorem d_X6_token_24 : dn cX6_token 24 (.bipush 49) 2 26 := dnAt dc_X6_token 14 rfl rfl
theorem d_X6_token_26 : dn cX6_token 26 (.invokestatic 57) 3 29 := dnAt dc_X6_token 15 rfl rfl
theorem d_X6_token_29 : dn cX6_token 29 (.aload 5) 2 31 := dnAt dc_X6_token 16 rfl rfl
theorem d_X6_token_31 : dn cX6_token 31 (.getfield 61) 3 34 := dnAt dc_X6_token 17 rfl rfl
theorem d_X6_token_34 : dn cX6_token 34 (.bipush 40) 2 36 := dnAt dc_X6_token 18 rfl rfl
theorem d_X6_token_36 : dn cX6_token 36 (.if_icmp .lt 13) 3 39 := dnAt dc_X6_token 19 rfl rfl
theorem d_X6_token_39 : dn cX6_token 39 (.new 64) 3 42 := dnAt dc_X6_token 20 rfl rfl
theorem d_X6_token_42 : dn cX6_token 42 (.dup) 1 43 := dnAt dc_X6_token 21 rfl rfl
theorem d_X6_token_43 : dn cX6_token 43 (.ldc 66) 2 45 := dnAt dc_X6_token 22 rfl rfl
theorem d_X6_token_45 : dn cX6_token 45 (.invokespecial 68) 3 48 := dnAt dc_X6_token 23 rfl rfl
theorem d_X6_token_48 : dn cX6_token 48 (.athrow) 1 49 := dnAt dc_X6_token 24 rfl rfl
theorem d_X6_token_49 : dn cX6_token 49 (.aload 5) 2 51 := dnAt dc_X6_token 25 rfl rfl
theorem d_X6_token_51 : dn cX6_token 51 (.iload_n 2) 1 52 := dnAt dc_X6_token 26 rfl rfl
theorem d_X6_token_52 : dn cX6_token 52 (.iload_n 3) 1 53 := dnAt dc_X6_token 27 rfl rfl
theorem d_X6_token_53 : dn cX6_token 53 (.iload 4) 2 55 := dnAt dc_X6_token 28 rfl rfl
theorem d_X6_token_55 : dn cX6_token 55 (.invokevirtual 71) 3 58 := dnAt dc_X6_token 29 rfl rfl
theorem d_X6_token_58 : dn cX6_token 58 (.ireturn) 1 59 := dnAt dc_X6_token 30 rfl rfl
set_option maxHeartbeats 4000000 in
set_option maxRecDepth 100000 in
theorem k_token {l : Launch} {G : eG} {ad : Nat → Nat → Nat} {h : hp} {g : mS} {side word kind root : Int32} (hlf : l.stackTraces = false) (hm : co G ad g h) (I : mInv g) : kX l G ad h yX6_token cX6_token 6 (Option.some Jvm.ClassFile.FieldType.int) { frames := 7, cells := 5, slots := 30, locals := 112 } [.ref (ad 0 0), .int side, .int word, .int kind, .int root] (fun v9 g9 _ => v9 = some (.int (nI (rToken g side word kind root))) ∧ g9 = tApp g (tn side) (tn word) (tn kind) (tn root) ∧ cToken g side word kind root = 0) (fun E9 g9 => (E9 = "java/lang/IndexOutOfBoundsException" ∧ cToken g side word kind root = 1 ∨ E9 = "java/lang/IllegalArgumentException" ∧ cToken g side word kind root = 2 ∨ E9 = "java/lang/IllegalStateException" ∧ cToken g side word kind root = 3) ∧ g9 = g) := by
  refine kX.of hlf hm (by decide) (Nat.le_of_ble_eq_true rfl) ?_
  intro x C A TY X
  show VC G x ad h g 0 0 0 [(0, .ref (ad 0 0)), (1, .int side), (2, .int word), (3, .int kind), (4, .int root)] []
  refine c_aload_n C d_X6_token_0 0 rfl ?_
  refine c_iload_n C d_X6_token_1 1 rfl ?_
  refine k_callVX C X cfr_rf d_X6_token_2 ok_RX6_53 (k := 0) (i' := 0) (fun l h hl hm hf => k_knownSide hl hm side) rfl rfl rfl rfl (rest := []) rfl rfl (Nat.le_of_ble_eq_true rfl) ⟨⟨by decide, by decide⟩, Nat.le_of_ble_eq_true rfl, Nat.le_of_ble_eq_true rfl⟩ (fun _ _ e => ⟨Or.inl ⟨e.1, by rw [cToken, if_neg (by rw [e.2.1]; decide)]⟩, e.2.2⟩) (fun v9 g9 hq1 e9 F1 => ?_)
  obtain ⟨rfl, z1, i1⟩ := e9
  refine c_eq z1 ?_
  obtain ⟨j1, -, s1⟩ := inR_of i1 (by decide) (by decide)
  refine c_base F1 ?_
  show VC G x ad h g 1 6 5 [(0, .ref (ad 0 0)), (1, .int side), (2, .int word), (3, .int kind), (4, .int root)] [.ref (ad 10 (tn side))]
  have hc := I.1 (tn side) (by omega)
  refine c_astore C d_X6_token_5 (lv' := [(5, .ref (ad 10 (tn side))), (0, .ref (ad 0 0)), (1, .int side), (2, .int word), (3, .int kind), (4, .int root)]) (by decide) rfl ?_
  refine c_iload_n C d_X6_token_7 3 rfl ?_
  refine c_iconst C d_X6_token_8 (v := (nI 0)) rfl ?_
  refine c_bipush C d_X6_token_9 (v := (nI 99)) rfl ?_
  refine k_callSX C X cfr_rf d_X6_token_11 ok_RX6_57 (fun l h hl hm hf => k_demandRange hl hm word ((nI 0)) ((nI 99))) (rest := []) rfl rfl (Nat.le_of_ble_eq_true rfl) ⟨⟨by decide, by decide⟩, Nat.le_of_ble_eq_true rfl, Nat.le_of_ble_eq_true rfl⟩ (fun _ _ e => ⟨Or.inr (Or.inl ⟨e.1, cToken_2 i1 (Or.inl e.2.1)⟩), e.2.2⟩) (fun v9 g9 hq2 e9 F2 => ?_)
  obtain ⟨rfl, z2, i2⟩ := e9
  refine c_eq z2 ?_
  refine c_base F2 ?_
  show VC G x ad h g 2 12 14 [(5, .ref (ad 10 (tn side))), (0, .ref (ad 0 0)), (1, .int side), (2, .int word), (3, .int kind), (4, .int root)] []
  refine c_iload_n C d_X6_token_14 4 rfl ?_
  refine c_iconst C d_X6_token_15 (v := (nI 0)) rfl ?_
  refine c_bipush C d_X6_token_16 (v := (nI 9)) rfl ?_
  refine k_callSX C X cfr_rf d_X6_token_18 ok_RX6_57 (fun l h hl hm hf => k_demandRange hl hm kind ((nI 0)) ((nI 9))) (rest := []) rfl rfl (Nat.le_of_ble_eq_true rfl) ⟨⟨by decide, by decide⟩, Nat.le_of_ble_eq_true rfl, Nat.le_of_ble_eq_true rfl⟩ (fun _ _ e => ⟨Or.inr (Or.inl ⟨e.1, cToken_2 i1 (Or.inr (Or.inl e.2.1))⟩), e.2.2⟩) (fun v9 g9 hq3 e9 F3 => ?_)
  obtain ⟨rfl, z3, i3⟩ := e9
  refine c_eq z3 ?_
  refine c_base F3 ?_
  show VC G x ad h g 3 18 21 [(5, .ref (ad 10 (tn side))), (0, .ref (ad 0 0)), (1, .int side), (2, .int word), (3, .int kind), (4, .int root)] []
  refine c_iload C d_X6_token_21 5 rfl ?_
  refine c_iconst C d_X6_token_23 (v := (nI 0)) rfl ?_
  refine c_bipush C d_X6_token_24 (v := (nI 49)) rfl ?_
  refine k_callSX C X cfr_rf d_X6_token_26 ok_RX6_57 (fun l h hl hm hf => k_demandRange hl hm root ((nI 0)) ((nI 49))) (rest := []) rfl rfl (Nat.le_of_ble_eq_true rfl) ⟨⟨by decide, by decide⟩, Nat.le_of_ble_eq_true rfl, Nat.le_of_ble_eq_true rfl⟩ (fun _ _ e => ⟨Or.inr (Or.inl ⟨e.1, cToken_2 i1 (Or.inr (Or.inr e.2.1))⟩), e.2.2⟩) (fun v9 g9 hq4 e9 F4 => ?_)
  obtain ⟨rfl, z4, i4⟩ := e9
  refine c_eq z4 ?_
  refine c_base F4 ?_
  show VC G x ad h g 4 24 29 [(5, .ref (ad 10 (tn side))), (0, .ref (ad 0 0)), (1, .int side), (2, .int word), (3, .int kind), (4, .int root)] []
  replace i2 : inR word 0 99 = true := i2
  replace i3 : inR kind 0 9 = true := i3
  replace i4 : inR root 0 49 = true := i4
  have j2 := (inR_of i2 (by decide) (by decide)).1
  have j3 := (inR_of i3 (by decide) (by decide)).1
  have j4 := (inR_of i4 (by decide) (by decide)).1
  refine c_aload C d_X6_token_29 0 rfl ?_
  refine c_get C d_X6_token_31 fd_RX6_61 (k := 10) (i' := tn side) (decide_eq_true (by omega)) rfl (v := .int (nI (mN g 1 (tn side)))) rfl ?_
  refine c_bipush C d_X6_token_34 (v := (nI 40)) rfl ?_
  refine cn_icmp_lt C d_X6_token_36 (tgt := 49) rfl (by omega) (by omega) (fun c_36 => ?_) (fun c_36 => ?_)
  · skip
    have z0 : cToken g side word kind root = 0 := by rw [cToken, if_pos i1, if_pos (by rw [i2, i3, i4]; rfl), if_neg (by omega)]
    refine c_lve (lv' := [(5, .ref (ad 10 (tn side))), (0, .ref (ad 0 0)), (1, .int side), (2, .int (nI (tn word))), (3, .int (nI (tn kind))), (4, .int (nI (tn root)))]) (by rw [← j2, ← j3, ← j4]) ?_
    refine c_aload C d_X6_token_49 0 rfl ?_
    refine c_iload_n C d_X6_token_51 3 rfl ?_
    refine c_iload_n C d_X6_token_52 4 rfl ?_
    refine c_iload C d_X6_token_53 5 rfl ?_
    refine k_callV C d_X6_token_55 ok_RX6_71 (k := 10) (i' := tn side) (fun l h hm hf => k_append hm I (by omega) (by omega)) (decide_eq_true (by omega)) rfl rfl rfl (rest := []) rfl rfl (Nat.le_of_ble_eq_true rfl) ⟨⟨by decide, by decide⟩, Nat.le_of_ble_eq_true rfl, Nat.le_of_ble_eq_true rfl⟩ (fun v9 g9 hq5 e9 F5 => ?_)
    obtain ⟨rfl, z5⟩ := e9
    refine c_eq z5 ?_
    refine c_base F5 ?_
    show VC G x ad h (tApp g (tn side) (tn word) (tn kind) (tn root)) 4 24 58 [(5, .ref (ad 10 (tn side))), (0, .ref (ad 0 0)), (1, .int side), (2, .int (nI (tn word))), (3, .int (nI (tn kind))), (4, .int (nI (tn root)))] [.int (nI (mN g 1 (tn side)))]
    refine c_st (st' := [.int (nI (rToken g side word kind root))]) (by rw [rToken, if_pos z0]) ?_
    exact k_iret C A cfr_rf TY d_X6_token_58 rfl (Nat.le_of_ble_eq_true rfl) (Nat.le_of_ble_eq_true rfl) (fun h9 F9 => ⟨rfl, rfl, z0⟩)
  · skip
    exact k_throw C X cfr_rf d_X6_token_39 d_X6_token_42 d_X6_token_43 d_X6_token_45 d_X6_token_48 th_64 (text := "the side is full") (by decide) ⟨by decide, Nat.le_of_ble_eq_true rfl, Nat.le_of_ble_eq_true rfl, Nat.le_of_ble_eq_true rfl⟩ (⟨Or.inr (Or.inr (⟨rfl, by rw [cToken, if_pos i1, if_pos (by rw [i2, i3, i4]; rfl), if_pos (by omega)]⟩)), rfl⟩)
def dl_X6_occurs : List (Nat × Instr × Nat) := [(0, .aload_n 0, 1), (1, .iload_n 1, 1), (2, .invokevirtual 53, 3), (5, .astore 4, 2), (7, .iload_n 2, 1), (8, .iconst 0, 1), (9, .iconst 2, 1), (10, .invokestatic 57, 3), (13, .iconst 0, 1), (14, .istore 5, 2), (16, .iconst 0, 1), (17, .istore 6, 2), (19, .iload 6, 2), (21, .aload 4, 2), (23, .getfield 61, 3), (26, .if_icmp .ge 24, 3), (29, .aload 4, 2), (31, .iload 6, 2), (33, .iload_n 2, 1), (34, .invokevirtual 102, 3), (37, .iload_n 3, 1), (38, .if_icmp .ne 6, 3), (41, .iinc 5 1, 3), (44, .iinc 6 1, 3), (47, .goto (-28), 3), (50, .iload 5, 2), (52, .ireturn, 1)]
theorem dc_X6_occurs : dnL cX6_occurs dl_X6_occurs = true := by decide +kernel
theorem d_X6_occurs_0 : dn cX6_occurs 0 (.aload_n 0) 1 1 := dnAt dc_X6_occurs 0 rfl rfl
theorem d_X6_occurs_1 : dn cX6_occurs 1 (.iload_n 1) 1 2 := dnAt dc_X6_occurs 1 rfl rfl
theorem d_X6_occurs_2 : dn cX6_occurs 2 (.invokevirtual 53) 3 5 := dnAt dc_X6_occurs 2 rfl rfl
theorem d_X6_occurs_5 : dn cX6_occurs 5 (.astore 4) 2 7 := dnAt dc_X6_occurs 3 rfl rfl
theorem d_X6_occurs_7 : dn cX6_occurs 7 (.iload_n 2) 1 8 := dnAt dc_X6_occurs 4 rfl rfl
theorem d_X6_occurs_8 : dn cX6_occurs 8 (.iconst 0) 1 9 := dnAt dc_X6_occurs 5 rfl rfl
theorem d_X6_occurs_9 : dn cX6_occurs 9 (.iconst 2) 1 10 := dnAt dc_X6_occurs 6 rfl rfl
theorem d_X6_occurs_10 : dn cX6_occurs 10 (.invokestatic 57) 3 13 := dnAt dc_X6_occurs 7 rfl rfl
theorem d_X6_occurs_13 : dn cX6_occurs 13 (.iconst 0) 1 14 := dnAt dc_X6_occurs 8 rfl rfl
theorem d_X6_occurs_14 : dn cX6_occurs 14 (.istore 5) 2 16 := dnAt dc_X6_occurs 9 rfl rfl
theorem d_X6_occurs_16 : dn cX6_occurs 16 (.iconst 0) 1 17 := dnAt dc_X6_occurs 10 rfl rfl
theorem d_X6_occurs_17 : dn cX6_occurs 17 (.istore 6) 2 19 := dnAt dc_X6_occurs 11 rfl rfl
theorem d_X6_occurs_19 : dn cX6_occurs 19 (.iload 6) 2 21 := dnAt dc_X6_occurs 12 rfl rfl
theorem d_X6_occurs_21 : dn cX6_occurs 21 (.aload 4) 2 23 := dnAt dc_X6_occurs 13 rfl rfl
theorem d_X6_occurs_23 : dn cX6_occurs 23 (.getfield 61) 3 26 := dnAt dc_X6_occurs 14 rfl rfl
theorem d_X6_occurs_26 : dn cX6_occurs 26 (.if_icmp .ge 24) 3 29 := dnAt dc_X6_occurs 15 rfl rfl
theorem d_X6_occurs_29 : dn cX6_occurs 29 (.aload 4) 2 31 := dnAt dc_X6_occurs 16 rfl rfl
theorem d_X6_occurs_31 : dn cX6_occurs 31 (.iload 6) 2 33 := dnAt dc_X6_occurs 17 rfl rfl
theorem d_X6_occurs_33 : dn cX6_occurs 33 (.iload_n 2) 1 34 := dnAt dc_X6_occurs 18 rfl rfl
theorem d_X6_occurs_34 : dn cX6_occurs 34 (.invokevirtual 102) 3 37 := dnAt dc_X6_occurs 19 rfl rfl
theorem d_X6_occurs_37 : dn cX6_occurs 37 (.iload_n 3) 1 38 := dnAt dc_X6_occurs 20 rfl rfl
theorem d_X6_occurs_38 : dn cX6_occurs 38 (.if_icmp .ne 6) 3 41 := dnAt dc_X6_occurs 21 rfl rfl
theorem d_X6_occurs_41 : dn cX6_occurs 41 (.iinc 5 1) 3 44 := dnAt dc_X6_occurs 22 rfl rfl
theorem d_X6_occurs_44 : dn cX6_occurs 44 (.iinc 6 1) 3 47 := dnAt dc_X6_occurs 23 rfl rfl
theorem d_X6_occurs_47 : dn cX6_occurs 47 (.goto (-28)) 3 50 := dnAt dc_X6_occurs 24 rfl rfl
theorem d_X6_occurs_50 : dn cX6_occurs 50 (.iload 5) 2 52 := dnAt dc_X6_occurs 25 rfl rfl
theorem d_X6_occurs_52 : dn cX6_occurs 52 (.ireturn) 1 53 := dnAt dc_X6_occurs 26 rfl rfl
set_option maxHeartbeats 4000000 in
set_option maxRecDepth 100000 in
theorem k_occurs {l : Launch} {G : eG} {ad : Nat → Nat → Nat} {h : hp} {g : mS} {side attr value : Int32} (hlf : l.stackTraces = false) (hm : co G ad g h) (I : mInv g) : kX l G ad h yX6_occurs cX6_occurs 7 (Option.some Jvm.ClassFile.FieldType.int) { frames := 7, cells := 2, slots := 12, locals := 112 } [.ref (ad 0 0), .int side, .int attr, .int value] (fun v9 g9 _ => v9 = some (.int (nI (rOccurs g side attr value))) ∧ g9 = g ∧ cOccurs side attr = 0) (fun E9 g9 => (E9 = "java/lang/IndexOutOfBoundsException" ∧ cOccurs side attr = 1 ∨ E9 = "java/lang/IllegalArgumentException" ∧ cOccurs side attr = 2) ∧ g9 = g) := by
  refine kX.of hlf hm (by decide) (Nat.le_of_ble_eq_true rfl) ?_
  intro x C A TY X
  show VC G x ad h g 0 0 0 [(0, .ref (ad 0 0)), (1, .int side), (2, .int attr), (3, .int value)] []
  refine c_aload_n C d_X6_occurs_0 0 rfl ?_
  refine c_iload_n C d_X6_occurs_1 1 rfl ?_
  refine k_callVX C X cfr_rf d_X6_occurs_2 ok_RX6_53 (k := 0) (i' := 0) (fun l h hl hm hf => k_knownSide hl hm side) rfl rfl rfl rfl (rest := []) rfl rfl (Nat.le_of_ble_eq_true rfl) ⟨⟨by decide, by decide⟩, Nat.le_of_ble_eq_true rfl, Nat.le_of_ble_eq_true rfl⟩ (fun _ _ e => ⟨Or.inl ⟨e.1, by rw [cOccurs, if_neg (by rw [e.2.1]; decide)]⟩, e.2.2⟩) (fun v9 g9 hq1 e9 F1 => ?_)
  obtain ⟨rfl, z1, i1⟩ := e9
  refine c_eq z1 ?_
  obtain ⟨j1, -, s1⟩ := inR_of i1 (by decide) (by decide)
  refine c_base F1 ?_
  show VC G x ad h g 1 6 5 [(0, .ref (ad 0 0)), (1, .int side), (2, .int attr), (3, .int value)] [.ref (ad 10 (tn side))]
  have hc := I.1 (tn side) (by omega)
  refine c_astore C d_X6_occurs_5 (lv' := [(4, .ref (ad 10 (tn side))), (0, .ref (ad 0 0)), (1, .int side), (2, .int attr), (3, .int value)]) (by decide) rfl ?_
  refine c_iload_n C d_X6_occurs_7 3 rfl ?_
  refine c_iconst C d_X6_occurs_8 (v := (nI 0)) rfl ?_
  refine c_iconst C d_X6_occurs_9 (v := (nI 2)) rfl ?_
  refine k_callSX C X cfr_rf d_X6_occurs_10 ok_RX6_57 (fun l h hl hm hf => k_demandRange hl hm attr ((nI 0)) ((nI 2))) (rest := []) rfl rfl (Nat.le_of_ble_eq_true rfl) ⟨⟨by decide, by decide⟩, Nat.le_of_ble_eq_true rfl, Nat.le_of_ble_eq_true rfl⟩ (fun _ _ e => ⟨Or.inr (⟨e.1, by rw [cOccurs, if_pos i1, if_neg (by rw [show inR attr 0 2 = false from e.2.1]; decide)]⟩), e.2.2⟩) (fun v9 g9 hq2 e9 F2 => ?_)
  obtain ⟨rfl, z2, i2⟩ := e9
  refine c_eq z2 ?_
  refine c_base F2 ?_
  show VC G x ad h g 2 12 13 [(4, .ref (ad 10 (tn side))), (0, .ref (ad 0 0)), (1, .int side), (2, .int attr), (3, .int value)] []
  replace i2 : inR attr 0 2 = true := i2
  obtain ⟨j2, -, s2⟩ := inR_of i2 (by decide) (by decide)
  have z0 : cOccurs side attr = 0 := by rw [cOccurs, if_pos i1, if_pos i2]
  refine c_lve (lv' := [(4, .ref (ad 10 (tn side))), (0, .ref (ad 0 0)), (1, .int side), (2, .int (nI (tn attr))), (3, .int value)]) (by rw [← j2]) ?_
  refine c_iconst C d_X6_occurs_13 (v := (nI 0)) rfl ?_
  refine c_istore C d_X6_occurs_14 (lv' := [(5, .int (nI 0)), (4, .ref (ad 10 (tn side))), (0, .ref (ad 0 0)), (1, .int side), (2, .int (nI (tn attr))), (3, .int value)]) (by decide) rfl ?_
  refine c_iconst C d_X6_occurs_16 (v := (nI 0)) rfl ?_
  refine c_istore C d_X6_occurs_17 (lv' := [(6, .int (nI 0)), (5, .int (nI 0)), (4, .ref (ad 10 (tn side))), (0, .ref (ad 0 0)), (1, .int side), (2, .int (nI (tn attr))), (3, .int value)]) (by decide) rfl ?_
  have loop_19 : ∀ (fuel : Nat) (k : Nat), (k ≤ mN g 1 (tn side)) → (41 - k) < fuel → VC G x ad h g 2 12 19 [(6, .int (nI k)), (5, .int (nI (nOccurs g (tn side) (tn attr) value k))), (4, .ref (ad 10 (tn side))), (0, .ref (ad 0 0)), (1, .int side), (2, .int (nI (tn attr))), (3, .int value)] [] := by
    intro fuel
    induction fuel with
    | zero => intro k hk hf9; exact absurd hf9 (Nat.not_lt_zero _)
    | succ fuel ih_19 =>
      intro k hk hf9
      refine c_iload C d_X6_occurs_19 0 rfl ?_
      refine c_aload C d_X6_occurs_21 2 rfl ?_
      refine c_get C d_X6_occurs_23 fd_RX6_61 (k := 10) (i' := tn side) (decide_eq_true (by omega)) rfl (v := .int (nI (mN g 1 (tn side)))) rfl ?_
      refine cn_icmp_ge C d_X6_occurs_26 (tgt := 50) rfl (by omega) (by omega) (fun c_26 => ?_) (fun c_26 => ?_)
      · skip
        have e9 : k = mN g 1 (tn side) := by omega
        refine c_iload C d_X6_occurs_50 1 rfl ?_
        refine c_st (st' := [.int (nI (rOccurs g side attr value))]) (by rw [rOccurs, if_pos z0, e9]) ?_
        exact k_iret C A cfr_rf TY d_X6_occurs_52 rfl (Nat.le_of_ble_eq_true rfl) (Nat.le_of_ble_eq_true rfl) (fun h9 F9 => ⟨rfl, rfl, z0⟩)
      · skip
        refine c_aload C d_X6_occurs_29 2 rfl ?_
        refine c_iload C d_X6_occurs_31 0 rfl ?_
        refine c_iload_n C d_X6_occurs_33 5 rfl ?_
        refine k_callV C d_X6_occurs_34 ok_RX6_102 (k := 10) (i' := tn side) (fun l h hm hf => k_valueAt hm (by omega) (by omega) (by omega)) (decide_eq_true (by omega)) rfl rfl rfl (rest := []) rfl rfl (Nat.le_of_ble_eq_true rfl) ⟨⟨by decide, by decide⟩, Nat.le_of_ble_eq_true rfl, Nat.le_of_ble_eq_true rfl⟩ (fun v9 g9 hq3 e9 F3 => ?_)
        obtain ⟨rfl, z3⟩ := e9
        refine c_eq z3 ?_
        refine c_base F3 ?_
        show VC G x ad h g 2 12 37 [(6, .int (nI k)), (5, .int (nI (nOccurs g (tn side) (tn attr) value k))), (4, .ref (ad 10 (tn side))), (0, .ref (ad 0 0)), (1, .int side), (2, .int (nI (tn attr))), (3, .int value)] [.int (nI (mVal g (tn side) k (tn attr)))]
        refine c_iload_n C d_X6_occurs_37 6 rfl ?_
        have join_44 : VC G x ad h g 2 12 44 [(6, .int (nI k)), (5, .int (nI (nOccurs g (tn side) (tn attr) value (k + 1)))), (4, .ref (ad 10 (tn side))), (0, .ref (ad 0 0)), (1, .int side), (2, .int (nI (tn attr))), (3, .int value)] [] := by
          refine cn_iinc C d_X6_occurs_44 (lv' := [(6, .int (nI (k + 1))), (5, .int (nI (nOccurs g (tn side) (tn attr) value (k + 1)))), (4, .ref (ad 10 (tn side))), (0, .ref (ad 0 0)), (1, .int side), (2, .int (nI (tn attr))), (3, .int value)]) 0 rfl (nI_inc _ rfl) (by decide) rfl ?_
          refine c_goto C d_X6_occurs_47 (tgt := 19) rfl ?_
          exact ih_19 (k + 1) (by omega) (by omega)
        refine c_icmp_ne C d_X6_occurs_38 (tgt := 44) rfl (fun c_38 => ?_) (fun c_38 => ?_)
        · skip
          refine c_lve (lv' := [(6, .int (nI k)), (5, .int (nI (nOccurs g (tn side) (tn attr) value (k + 1)))), (4, .ref (ad 10 (tn side))), (0, .ref (ad 0 0)), (1, .int side), (2, .int (nI (tn attr))), (3, .int value)]) (by unfold nOccurs; rw [sumTo, if_neg c_38]; rfl) ?_
          exact join_44  
        · skip
          refine cn_iinc C d_X6_occurs_41 (lv' := [(5, .int (nI (nOccurs g (tn side) (tn attr) value k + 1))), (6, .int (nI k)), (4, .ref (ad 10 (tn side))), (0, .ref (ad 0 0)), (1, .int side), (2, .int (nI (tn attr))), (3, .int value)]) 1 rfl (nI_inc _ rfl) (by decide) rfl ?_
          refine c_lv (lv' := [(6, .int (nI k)), (5, .int (nI (nOccurs g (tn side) (tn attr) value k + 1))), (4, .ref (ad 10 (tn side))), (0, .ref (ad 0 0)), (1, .int side), (2, .int (nI (tn attr))), (3, .int value)]) [1, 0, 2, 3, 4, 5, 6] rfl ?_
          refine c_lve (lv' := [(6, .int (nI k)), (5, .int (nI (nOccurs g (tn side) (tn attr) value (k + 1)))), (4, .ref (ad 10 (tn side))), (0, .ref (ad 0 0)), (1, .int side), (2, .int (nI (tn attr))), (3, .int value)]) (by unfold nOccurs; rw [sumTo, if_pos (Classical.not_not.mp c_38)]) ?_
          exact join_44  
  refine c_lve (lv' := [(6, .int (nI 0)), (5, .int (nI (nOccurs g (tn side) (tn attr) value 0))), (4, .ref (ad 10 (tn side))), (0, .ref (ad 0 0)), (1, .int side), (2, .int (nI (tn attr))), (3, .int value)]) (rfl) ?_
  exact loop_19 _ 0 (by omega) (Nat.lt_succ_self _)
