theorem tw_665 : (Jvm.Cond.fieldLink "CorpuslineModel" (19 : Nat) "CorpuslineModel" "text" "[I") ∈ TB := tb_of 665 (by decide +kernel) rfl
theorem tw_668 : (Jvm.Cond.fieldLink "CorpuslineModel" (29 : Nat) "CorpuslineModel" "pairs" "[J") ∈ TB := tb_of 668 (by decide +kernel) rfl
theorem tw_758 : (Jvm.Cond.methodLink "CorpuslineModel" (87 : Nat) ({ cls := "CorpuslineModel", name := "sentences", desc := "(I)I" } : Jvm.MethodName)) ∈ TB := tb_of 758 (by decide +kernel) rfl
theorem tw_760 : (Jvm.Cond.instanceMethod ({ cls := "CorpuslineModel", name := "sentences", desc := "(I)I" } : Jvm.MethodName)) ∈ TB := tb_of 760 (by decide +kernel) rfl
theorem tw_761 : (Jvm.Cond.code ({ cls := "CorpuslineModel", name := "sentences", desc := "(I)I" } : Jvm.MethodName) prog_9_method_9_code (2 : Nat) (Option.some Jvm.ClassFile.FieldType.int)) ∈ TB := tb_of 761 (by decide +kernel) rfl
theorem tw_875 : (Jvm.Cond.methodLink "CorpuslineModel" (150 : Nat) ({ cls := "CorpuslineModel", name := "sizeOf", desc := "(I)I" } : Jvm.MethodName)) ∈ TB := tb_of 875 (by decide +kernel) rfl
theorem tw_877 : (Jvm.Cond.instanceMethod ({ cls := "CorpuslineModel", name := "sizeOf", desc := "(I)I" } : Jvm.MethodName)) ∈ TB := tb_of 877 (by decide +kernel) rfl
theorem tw_878 : (Jvm.Cond.code ({ cls := "CorpuslineModel", name := "sizeOf", desc := "(I)I" } : Jvm.MethodName) prog_9_method_39_code (4 : Nat) (Option.some Jvm.ClassFile.FieldType.int)) ∈ TB := tb_of 878 (by decide +kernel) rfl
theorem tw_890 : (Jvm.Cond.methodLink "CorpuslineModel" (153 : Nat) ({ cls := "CorpuslineModel", name := "isResult", desc := "(I)Z" } : Jvm.MethodName)) ∈ TB := tb_of 890 (by decide +kernel) rfl
theorem tw_892 : (Jvm.Cond.instanceMethod ({ cls := "CorpuslineModel", name := "isResult", desc := "(I)Z" } : Jvm.MethodName)) ∈ TB := tb_of 892 (by decide +kernel) rfl
theorem tw_893 : (Jvm.Cond.code ({ cls := "CorpuslineModel", name := "isResult", desc := "(I)Z" } : Jvm.MethodName) prog_9_method_42_code (2 : Nat) (Option.some Jvm.ClassFile.FieldType.boolean)) ∈ TB := tb_of 893 (by decide +kernel) rfl
theorem ts_19 : Cond.selects "CorpuslineModel" ({ cls := "CorpuslineModel", name := "sentences", desc := "(I)I" } : MethodName) ({ cls := "CorpuslineModel", name := "sentences", desc := "(I)I" } : MethodName) ∈ TB := tb_sel 19 (by decide +kernel) rfl
theorem ts_32 : Cond.selects "CorpuslineModel" ({ cls := "CorpuslineModel", name := "sizeOf", desc := "(I)I" } : MethodName) ({ cls := "CorpuslineModel", name := "sizeOf", desc := "(I)I" } : MethodName) ∈ TB := tb_sel 32 (by decide +kernel) rfl
theorem ts_33 : Cond.selects "CorpuslineModel" ({ cls := "CorpuslineModel", name := "isResult", desc := "(I)Z" } : MethodName) ({ cls := "CorpuslineModel", name := "isResult", desc := "(I)Z" } : MethodName) ∈ TB := tb_sel 33 (by decide +kernel) rfl
theorem fd_RX7_19 : fdOk RX7 19 6 4 := ⟨_, _, _, rfl, by decide, cw_6, tw_665, rfl⟩
theorem fd_RX7_29 : fdOk RX7 29 6 7 := ⟨_, _, _, rfl, by decide, cw_6, tw_668, rfl⟩
theorem pf_RX7_98 : pfOk RX7 98 6 16 .int false := ⟨_, _, _, tyX7, rfl, by decide, cw_6, tw_677, rfl, tyX7_ok, nmX7, rfl, by decide +kernel⟩
theorem ok_RX7_87 : okV RX7 87 yX7_sentences cX7_sentences 2 (Option.some Jvm.ClassFile.FieldType.int) 1 := ⟨tw_758, tw_760, ts_19, tw_5, tw_761, ⟨by decide, by decide, by decide +kernel⟩⟩
theorem ok_RX7_150 : okV RX7 150 yX7_sizeOf cX7_sizeOf 4 (Option.some Jvm.ClassFile.FieldType.int) 1 := ⟨tw_875, tw_877, ts_32, tw_5, tw_878, ⟨by decide, by decide, by decide +kernel⟩⟩
theorem ok_RX7_153 : okV RX7 153 yX7_isResult cX7_isResult 2 (Option.some Jvm.ClassFile.FieldType.boolean) 1 := ⟨tw_890, tw_892, ts_33, tw_5, tw_893, ⟨by decide, by decide, by decide +kernel⟩⟩
def dl_X7_wipe : List (Nat × Instr × Nat) := [(0, .aload_n 0, 1), (1, .iconst 0, 1), (2, .putfield 72, 3), (5, .aload_n 0, 1), (6, .getfield 98, 3), (9, .istore_n 1, 1), (10, .aload_n 0, 1), (11, .iconst 0, 1), (12, .putfield 98, 3), (15, .iload_n 1, 1), (16, .ireturn, 1)]
theorem dc_X7_wipe : dnL cX7_wipe dl_X7_wipe = true := by decide +kernel
theorem d_X7_wipe_0 : dn cX7_wipe 0 (.aload_n 0) 1 1 := dnAt dc_X7_wipe 0 rfl rfl
theorem d_X7_wipe_1 : dn cX7_wipe 1 (.iconst 0) 1 2 := dnAt dc_X7_wipe 1 rfl rfl
theorem d_X7_wipe_2 : dn cX7_wipe 2 (.putfield 72) 3 5 := dnAt dc_X7_wipe 2 rfl rfl
theorem d_X7_wipe_5 : dn cX7_wipe 5 (.aload_n 0) 1 6 := dnAt dc_X7_wipe 3 rfl rfl
theorem d_X7_wipe_6 : dn cX7_wipe 6 (.getfield 98) 3 9 := dnAt dc_X7_wipe 4 rfl rfl
theorem d_X7_wipe_9 : dn cX7_wipe 9 (.istore_n 1) 1 10 := dnAt dc_X7_wipe 5 rfl rfl
theorem d_X7_wipe_10 : dn cX7_wipe 10 (.aload_n 0) 1 11 := dnAt dc_X7_wipe 6 rfl rfl
theorem d_X7_wipe_11 : dn cX7_wipe 11 (.iconst 0) 1 12 := dnAt dc_X7_wipe 7 rfl rfl
theorem d_X7_wipe_12 : dn cX7_wipe 12 (.putfield 98) 3 15 := dnAt dc_X7_wipe 8 rfl rfl
theorem d_X7_wipe_15 : dn cX7_wipe 15 (.iload_n 1) 1 16 := dnAt dc_X7_wipe 9 rfl rfl
theorem d_X7_wipe_16 : dn cX7_wipe 16 (.ireturn) 1 17 := dnAt dc_X7_wipe 10 rfl rfl
set_option maxHeartbeats 4000000 in
set_option maxRecDepth 100000 in
theorem m_wipe (S : mS) : mC yX7_wipe cX7_wipe 2 (Option.some Jvm.ClassFile.FieldType.int) { frames := 0, cells := 0, slots := 0, locals := 0 } [] S (fun v9 T9 => v9 = (some (.int (nI (mK S 16)))) ∧ T9 = uK (uK S 0 0) 16 0) := by
  refine mC.of (by decide) (Nat.le_of_ble_eq_true rfl) ?_
  intro G x q h0 C A TY
  show VM G x q h0 S 0 [(0, .ref (q 0))] []
  refine m_aload_n C d_X7_wipe_0 0 rfl ?_
  refine m_iconst C d_X7_wipe_1 (v := (nI 0)) rfl ?_
  refine m_putK C d_X7_wipe_2 pf_RX7_72 (by decide) (fun _ _ => rfl) ?_
  refine m_aload_n C d_X7_wipe_5 0 rfl ?_
  refine m_get C d_X7_wipe_6 fd_RX7_98 (v := .int (nI (mK (uK S 0 0) 16))) rfl ?_
  refine m_st (st' := [.int (nI (mK S 16))]) rfl ?_
  refine m_istore_n C d_X7_wipe_9 (lv' := [(1, .int (nI (mK S 16))), (0, .ref (q 0))]) (by decide) rfl ?_
  refine m_aload_n C d_X7_wipe_10 1 rfl ?_
  refine m_iconst C d_X7_wipe_11 (v := (nI 0)) rfl ?_
  refine m_putK C d_X7_wipe_12 pf_RX7_98 (by decide) (fun _ _ => rfl) ?_
  refine m_iload_n C d_X7_wipe_15 0 rfl ?_
  exact m_iret C A TY d_X7_wipe_16 rfl (⟨rfl, rfl⟩)
def dl_X7_size : List (Nat × Instr × Nat) := [(0, .aload_n 0, 1), (1, .iconst 0, 1), (2, .putfield 72, 3), (5, .aload_n 0, 1), (6, .iload_n 1, 1), (7, .invokevirtual 153, 3), (10, .ifCond .eq 11, 3), (13, .aload_n 0, 1), (14, .iload_n 1, 1), (15, .invokevirtual 150, 3), (18, .goto 4, 3), (21, .iconst (-1), 1), (22, .ireturn, 1)]
theorem dc_X7_size : dnL cX7_size dl_X7_size = true := by decide +kernel
theorem d_X7_size_0 : dn cX7_size 0 (.aload_n 0) 1 1 := dnAt dc_X7_size 0 rfl rfl
theorem d_X7_size_1 : dn cX7_size 1 (.iconst 0) 1 2 := dnAt dc_X7_size 1 rfl rfl
theorem d_X7_size_2 : dn cX7_size 2 (.putfield 72) 3 5 := dnAt dc_X7_size 2 rfl rfl
theorem d_X7_size_5 : dn cX7_size 5 (.aload_n 0) 1 6 := dnAt dc_X7_size 3 rfl rfl
theorem d_X7_size_6 : dn cX7_size 6 (.iload_n 1) 1 7 := dnAt dc_X7_size 4 rfl rfl
theorem d_X7_size_7 : dn cX7_size 7 (.invokevirtual 153) 3 10 := dnAt dc_X7_size 5 rfl rfl
theorem d_X7_size_10 : dn cX7_size 10 (.ifCond .eq 11) 3 13 := dnAt dc_X7_size 6 rfl rfl
theorem d_X7_size_13 : dn cX7_size 13 (.aload_n 0) 1 14 := dnAt dc_X7_size 7 rfl rfl
theorem d_X7_size_14 : dn cX7_size 14 (.iload_n 1) 1 15 := dnAt dc_X7_size 8 rfl rfl
theorem d_X7_size_15 : dn cX7_size 15 (.invokevirtual 150) 3 18 := dnAt dc_X7_size 9 rfl rfl
theorem d_X7_size_18 : dn cX7_size 18 (.goto 4) 3 21 := dnAt dc_X7_size 10 rfl rfl
theorem d_X7_size_21 : dn cX7_size 21 (.iconst (-1)) 1 22 := dnAt dc_X7_size 11 rfl rfl
theorem d_X7_size_22 : dn cX7_size 22 (.ireturn) 1 23 := dnAt dc_X7_size 12 rfl rfl
set_option maxHeartbeats 4000000 in
set_option maxRecDepth 100000 in
theorem m_size (S : mS) (v : Int32) (I : mInv S) : mC yX7_size cX7_size 2 (Option.some Jvm.ClassFile.FieldType.int) { frames := 2, cells := 0, slots := 0, locals := 45 } [.int v] S (fun v9 T9 => v9 = (some (.int (rSz S v))) ∧ T9 = uK S 0 0) := by
  refine mC.of (by decide) (Nat.le_of_ble_eq_true rfl) ?_
  intro G x q h0 C A TY
  show VM G x q h0 S 0 [(0, .ref (q 0)), (1, .int v)] []
  refine m_aload_n C d_X7_size_0 0 rfl ?_
  refine m_iconst C d_X7_size_1 (v := (nI 0)) rfl ?_
  refine m_putK C d_X7_size_2 pf_RX7_72 (by decide) (fun _ _ => rfl) ?_
  refine m_aload_n C d_X7_size_5 0 rfl ?_
  refine m_iload_n C d_X7_size_6 1 rfl ?_
  refine m_callV C d_X7_size_7 ok_RX7_153 (m_isResult (uK S 0 0) v) rfl (rest := []) rfl rfl (Nat.le_of_ble_eq_true rfl) ⟨⟨by decide, by decide⟩, by decide, by decide⟩ (fun v9 T9 e9 => ?_)
  obtain ⟨rfl, e9⟩ := e9
  refine m_eq e9 ?_
  show VM G x q h0 (uK S 0 0) 10 [(0, .ref (q 0)), (1, .int v)] [.int (bI (mIsR S v))]
  refine mb_if_eq C d_X7_size_10 (tgt := 21) rfl (fun c_10 => ?_) (fun c_10 => ?_)
  · skip
    refine m_iconst C d_X7_size_21 (v := ((-1))) rfl ?_
    refine m_st (st' := [.int (rSz S v)]) (by first | rw [rSz, if_pos c_10] | rw [rSz, if_neg (by rw [c_10]; decide)]) ?_
    exact m_iret C A TY d_X7_size_22 rfl (⟨rfl, rfl⟩)
  · skip
    obtain ⟨e1, e2, e3⟩ := mIsR_of c_10
    refine m_lve (lv' := [(0, .ref (q 0)), (1, .int (nI (tn v)))]) (by rw [← e1]) ?_
    refine m_aload_n C d_X7_size_13 0 rfl ?_
    refine m_iload_n C d_X7_size_14 1 rfl ?_
    refine m_callV C d_X7_size_15 ok_RX7_150 (m_sizeOf (uK S 0 0) (tn v) (by omega) (fun k hk => (I.2.2.2.2.2.2.2.2.2.2.2.2.2.1 k hk).1)) rfl (rest := []) rfl rfl (Nat.le_of_ble_eq_true rfl) ⟨⟨by decide, by decide⟩, by decide, by decide⟩ (fun v9 T9 e9 => ?_)
    obtain ⟨rfl, e9⟩ := e9
    refine m_eq e9 ?_
    show VM G x q h0 (uK S 0 0) 18 [(0, .ref (q 0)), (1, .int (nI (tn v)))] [.int (nI (mSize S (tn v)))]
    refine m_goto C d_X7_size_18 (tgt := 22) rfl ?_
    refine m_st (st' := [.int (rSz S v)]) (by first | rw [rSz, if_pos c_10] | rw [rSz, if_neg (by rw [c_10]; decide)]) ?_
    exact m_iret C A TY d_X7_size_22 rfl (⟨rfl, rfl⟩)
def dl_X7_drop : List (Nat × Instr × Nat) := [(0, .aload_n 0, 1), (1, .aload_n 0, 1), (2, .iload_n 1, 1), (3, .invokevirtual 153, 3), (6, .ifCond .eq 7, 3), (9, .iconst 0, 1), (10, .goto 4, 3), (13, .iconst 1, 1), (14, .invokevirtual 84, 3), (17, .ifCond .ne 5, 3), (20, .iconst 0, 1), (21, .ireturn, 1), (22, .aload_n 0, 1), (23, .getfield 63, 3), (26, .iload_n 1, 1), (27, .iconst (-1), 1), (28, .iastore, 1), (29, .aload_n 0, 1), (30, .iload_n 1, 1), (31, .invokevirtual 150, 3), (34, .ireturn, 1)]
theorem dc_X7_drop : dnL cX7_drop dl_X7_drop = true := by decide +kernel
theorem d_X7_drop_0 : dn cX7_drop 0 (.aload_n 0) 1 1 := dnAt dc_X7_drop 0 rfl rfl
theorem d_X7_drop_1 : dn cX7_drop 1 (.aload_n 0) 1 2 := dnAt dc_X7_drop 1 rfl rfl
theorem d_X7_drop_2 : dn cX7_drop 2 (.iload_n 1) 1 3 := dnAt dc_X7_drop 2 rfl rfl
theorem d_X7_drop_3 : dn cX7_drop 3 (.invokevirtual 153) 3 6 := dnAt dc_X7_drop 3 rfl rfl
theorem d_X7_drop_6 : dn cX7_drop 6 (.ifCond .eq 7) 3 9 := dnAt dc_X7_drop 4 rfl rfl
theorem d_X7_drop_9 : dn cX7_drop 9 (.iconst 0) 1 10 := dnAt dc_X7_drop 5 rfl rfl
theorem d_X7_drop_10 : dn cX7_drop 10 (.goto 4) 3 13 := dnAt dc_X7_drop 6 rfl rfl
theorem d_X7_drop_13 : dn cX7_drop 13 (.iconst 1) 1 14 := dnAt dc_X7_drop 7 rfl rfl
theorem d_X7_drop_14 : dn cX7_drop 14 (.invokevirtual 84) 3 17 := dnAt dc_X7_drop 8 rfl rfl
theorem d_X7_drop_17 : dn cX7_drop 17 (.ifCond .ne 5) 3 20 := dnAt dc_X7_drop 9 rfl rfl
theorem d_X7_drop_20 : dn cX7_drop 20 (.iconst 0) 1 21 := dnAt dc_X7_drop 10 rfl rfl
theorem d_X7_drop_21 : dn cX7_drop 21 (.ireturn) 1 22 := dnAt dc_X7_drop 11 rfl rfl
theorem d_X7_drop_22 : dn cX7_drop 22 (.aload_n 0) 1 23 := dnAt dc_X7_drop 12 rfl rfl
theorem d_X7_drop_23 : dn cX7_drop 23 (.getfield 63) 3 26 := dnAt dc_X7_drop 13 rfl rfl
theorem d_X7_drop_26 : dn cX7_drop 26 (.iload_n 1) 1 27 := dnAt dc_X7_drop 14 rfl rfl
theorem d_X7_drop_27 : dn cX7_drop 27 (.iconst (-1)) 1 28 := dnAt dc_X7_drop 15 rfl rfl
theorem d_X7_drop_28 : dn cX7_drop 28 (.iastore) 1 29 := dnAt dc_X7_drop 16 rfl rfl
theorem d_X7_drop_29 : dn cX7_drop 29 (.aload_n 0) 1 30 := dnAt dc_X7_drop 17 rfl rfl
theorem d_X7_drop_30 : dn cX7_drop 30 (.iload_n 1) 1 31 := dnAt dc_X7_drop 18 rfl rfl
theorem d_X7_drop_31 : dn cX7_drop 31 (.invokevirtual 150) 3 34 := dnAt dc_X7_drop 19 rfl rfl
theorem d_X7_drop_34 : dn cX7_drop 34 (.ireturn) 1 35 := dnAt dc_X7_drop 20 rfl rfl
set_option maxHeartbeats 4000000 in
set_option maxRecDepth 100000 in
theorem m_drop (S : mS) (v : Int32) (I : mInv S) : mC yX7_drop cX7_drop 2 (Option.some Jvm.ClassFile.FieldType.int) { frames := 2, cells := 0, slots := 0, locals := 45 } [.int v] S (fun v9 T9 => v9 = (some (.int (nI (rDrop S v)))) ∧ T9 = tDrop S v) := by
  refine mC.of (by decide) (Nat.le_of_ble_eq_true rfl) ?_
  intro G x q h0 C A TY
  show VM G x q h0 S 0 [(0, .ref (q 0)), (1, .int v)] []
  refine m_aload_n C d_X7_drop_0 0 rfl ?_
  have join_14 : VM G x q h0 S 14 [(0, .ref (q 0)), (1, .int v)] [.int (nI (cWR S v)), .ref (q 0)] := by
    refine m_callV C d_X7_drop_14 ok_RX7_84 (m_holds S (cWR S v) (by unfold cWR; split <;> omega)) rfl (rest := []) rfl rfl (Nat.le_of_ble_eq_true rfl) ⟨⟨by decide, by decide⟩, by decide, by decide⟩ (fun v9 T9 e9 => ?_)
    obtain ⟨rfl, e9⟩ := e9
    refine m_eq e9 ?_
    show VM G x q h0 (uK S 0 (cWR S v)) 17 [(0, .ref (q 0)), (1, .int v)] [.int (bI (decide (cWR S v = 0)))]
    refine mb_if_ne C d_X7_drop_17 (tgt := 22) rfl (fun c_17 => ?_) (fun c_17 => ?_)
    · skip
      have c0 := of_decide_eq_true c_17
      have c1 : mIsR S v = true := by unfold cWR at c0; split at c0 <;> first | assumption | omega
      obtain ⟨e1, e2, e3⟩ := mIsR_of c1
      rw [c0]
      refine m_lve (lv' := [(0, .ref (q 0)), (1, .int (nI (tn v)))]) (by rw [← e1]) ?_
      refine m_aload_n C d_X7_drop_22 0 rfl ?_
      refine m_get C d_X7_drop_23 fd_RX7_63 (v := .ref (q 20)) rfl ?_
      refine m_iload_n C d_X7_drop_26 1 rfl ?_
      refine m_iconst C d_X7_drop_27 (v := ((-1))) rfl ?_
      refine m_astI C d_X7_drop_28 (k := 20) (v := (-1)) (by decide) rfl (by show _ < 8; omega) (by decide) ?_
      refine m_aload_n C d_X7_drop_29 0 rfl ?_
      refine m_iload_n C d_X7_drop_30 1 rfl ?_
      refine m_callV C d_X7_drop_31 ok_RX7_150 (m_sizeOf (uI (uK S 0 0) 20 (tn v) ((-1))) (tn v) (by omega) (fun k hk => (I.2.2.2.2.2.2.2.2.2.2.2.2.2.1 k hk).1)) rfl (rest := []) rfl rfl (Nat.le_of_ble_eq_true rfl) ⟨⟨by decide, by decide⟩, by decide, by decide⟩ (fun v9 T9 e9 => ?_)
      obtain ⟨rfl, e9⟩ := e9
      refine m_eq e9 ?_
      show VM G x q h0 (uI (uK S 0 0) 20 (tn v) ((-1))) 34 [(0, .ref (q 0)), (1, .int (nI (tn v)))] [.int (nI (mSize S (tn v)))]
      refine m_st (st' := [.int (nI (rDrop S v))]) (by rw [rDrop, if_pos c1]) ?_
      exact m_iret C A TY d_X7_drop_34 rfl (⟨rfl, by rw [tDrop, if_pos c1]⟩)
    · skip
      have c0 := of_decide_eq_false c_17
      have c1 : ¬ mIsR S v = true := fun z => c0 (by rw [cWR, if_pos z])
      rw [cWR, if_neg c1]
      refine m_iconst C d_X7_drop_20 (v := (nI 0)) rfl ?_
      refine m_st (st' := [.int (nI (rDrop S v))]) (by rw [rDrop, if_neg c1]) ?_
      exact m_iret C A TY d_X7_drop_21 rfl (⟨rfl, by rw [tDrop, if_neg c1]⟩)
  refine m_aload_n C d_X7_drop_1 0 rfl ?_
  refine m_iload_n C d_X7_drop_2 1 rfl ?_
  refine m_callV C d_X7_drop_3 ok_RX7_153 (m_isResult S v) rfl (rest := [.ref (q 0)]) rfl rfl (Nat.le_of_ble_eq_true rfl) ⟨⟨by decide, by decide⟩, by decide, by decide⟩ (fun v9 T9 e9 => ?_)
  obtain ⟨rfl, e9⟩ := e9
  refine m_eq e9 ?_
  show VM G x q h0 S 6 [(0, .ref (q 0)), (1, .int v)] [.int (bI (mIsR S v)), .ref (q 0)]
  refine mb_if_eq C d_X7_drop_6 (tgt := 13) rfl (fun c_6 => ?_) (fun c_6 => ?_)
  · skip
    refine m_iconst C d_X7_drop_13 (v := (nI 1)) rfl ?_
    refine m_st (st' := [.int (nI (cWR S v)), .ref (q 0)]) (by first | rw [cWR, if_pos c_6] | rw [cWR, if_neg (by rw [c_6]; decide)]) ?_
    exact join_14  
  · skip
    refine m_iconst C d_X7_drop_9 (v := (nI 0)) rfl ?_
    refine m_goto C d_X7_drop_10 (tgt := 14) rfl ?_
    refine m_st (st' := [.int (nI (cWR S v)), .ref (q 0)]) (by first | rw [cWR, if_pos c_6] | rw [cWR, if_neg (by rw [c_6]; decide)]) ?_
    exact join_14  
def dl_X7_token : List (Nat × Instr × Nat) := [(0, .iload_n 2, 1), (1, .iconst 0, 1), (2, .bipush 99, 2), (4, .invokestatic 76, 3), (7, .ifCond .eq 28, 3), (10, .iload_n 3, 1), (11, .iconst 0, 1), (12, .bipush 9, 2), (14, .invokestatic 76, 3), (17, .ifCond .eq 18, 3), (20, .iload 4, 2), (22, .iconst 0, 1), (23, .bipush 49, 2), (25, .invokestatic 76, 3), (28, .ifCond .eq 7, 3), (31, .iconst 1, 1), (32, .goto 4, 3), (35, .iconst 0, 1), (36, .istore 5, 2), (38, .aload_n 0, 1), (39, .iload_n 1, 1), (40, .invokestatic 80, 3), (43, .ifCond .ne 7, 3), (46, .iconst 1, 1), (47, .goto 28, 3), (50, .iload 5, 2), (52, .ifCond .ne 7, 3), (55, .iconst 2, 1), (56, .goto 19, 3), (59, .aload_n 0, 1), (60, .getfield 7, 3), (63, .iload_n 1, 1), (64, .iaload, 1), (65, .bipush 40, 2), (67, .if_icmp .ne 7, 3), (70, .iconst 3, 1), (71, .goto 4, 3), (74, .iconst 0, 1), (75, .invokevirtual 84, 3), (78, .ifCond .ne 5, 3), (81, .iconst 0, 1), (82, .ireturn, 1), (83, .bipush 40, 2), (85, .iload_n 1, 1), (86, .imul, 1), (87, .aload_n 0, 1), (88, .getfield 7, 3), (91, .iload_n 1, 1), (92, .iaload, 1), (93, .iadd, 1), (94, .istore 6, 2), (96, .aload_n 0, 1), (97, .getfield 7, 3), (100, .iload_n 1, 1), (101, .iaload, 1), (102, .ifCond .ne 7, 3), (105, .iconst 1, 1), (106, .goto 4, 3), (109, .iconst 0, 1), (110, .istore 7, 2), (112, .aload_n 0, 1), (113, .getfield 13, 3), (116, .iconst 3, 1), (117, .iload 6, 2), (119, .imul, 1), (120, .iconst 0, 1), (121, .iadd, 1), (122, .iload_n 2, 1), (123, .iastore, 1), (124, .aload_n 0, 1), (125, .getfield 13, 3), (128, .iconst 3, 1), (129, .iload 6, 2), (131, .imul, 1), (132, .iconst 1, 1), (133, .iadd, 1), (134, .iload_n 3, 1), (135, .iastore, 1), (136, .aload_n 0, 1), (137, .getfield 13, 3), (140, .iconst 3, 1), (141, .iload 6, 2), (143, .imul, 1), (144, .iconst 2, 1), (145, .iadd, 1), (146, .iload 4, 2), (148, .iastore, 1), (149, .aload_n 0, 1), (150, .getfield 16, 3), (153, .iload 6, 2), (155, .iload 7, 2), (157, .ifCond .eq 7, 3), (160, .iconst 0, 1), (161, .goto 27, 3), (164, .aload_n 0, 1), (165, .getfield 16, 3), (168, .iload 6, 2), (170, .iconst 1, 1), (171, .isub, 1), (172, .iaload, 1), (173, .aload_n 0, 1), (174, .getfield 22, 3), (177, .iload_n 1, 1), (178, .baload, 1), (179, .ifCond .eq 7, 3), (182, .iconst 1, 1), (183, .goto 4, 3), (186, .iconst 0, 1), (187, .iadd, 1), (188, .iastore, 1), (189, .aload_n 0, 1), (190, .getfield 19, 3), (193, .iload 6, 2), (195, .iload 7, 2), (197, .ifCond .eq 7, 3), (200, .iconst 0, 1), (201, .goto 27, 3), (204, .aload_n 0, 1), (205, .getfield 19, 3), (208, .iload 6, 2), (210, .iconst 1, 1), (211, .isub, 1), (212, .iaload, 1), (213, .aload_n 0, 1), (214, .getfield 26, 3), (217, .iload_n 1, 1), (218, .baload, 1), (219, .ifCond .eq 7, 3), (222, .iconst 1, 1), (223, .goto 4, 3), (226, .iconst 0, 1), (227, .iadd, 1), (228, .iastore, 1), (229, .aload_n 0, 1), (230, .getfield 22, 3), (233, .iload_n 1, 1), (234, .iconst 0, 1), (235, .bastore, 1), (236, .aload_n 0, 1), (237, .getfield 26, 3), (240, .iload_n 1, 1), (241, .iconst 0, 1), (242, .bastore, 1), (243, .aload_n 0, 1), (244, .getfield 7, 3), (247, .iload_n 1, 1), (248, .dup2, 1), (249, .iaload, 1), (250, .iconst 1, 1), (251, .iadd, 1), (252, .iastore, 1), (253, .aload_n 0, 1), (254, .getfield 7, 3), (257, .iload_n 1, 1), (258, .iaload, 1), (259, .iconst 1, 1), (260, .isub, 1), (261, .ireturn, 1)]
theorem dc_X7_token : dnL cX7_token dl_X7_token = true := by decide +kernel
theorem d_X7_token_0 : dn cX7_token 0 (.iload_n 2) 1 1 := dnAt dc_X7_token 0 rfl rfl
theorem d_X7_token_1 : dn cX7_token 1 (.iconst 0) 1 2 := dnAt dc_X7_token 1 rfl rfl
theorem d_X7_token_2 : dn cX7_token 2 (.bipush 99) 2 4 := dnAt dc_X7_token 2 rfl rfl
theorem d_X7_token_4 : dn cX7_token 4 (.invokestatic 76) 3 7 := dnAt dc_X7_token 3 rfl rfl
theorem d_X7_token_7 : dn cX7_token 7 (.ifCond .eq 28) 3 10 := dnAt dc_X7_token 4 rfl rfl
theorem d_X7_token_10 : dn cX7_token 10 (.iload_n 3) 1 11 := dnAt dc_X7_token 5 rfl rfl
theorem d_X7_token_11 : dn cX7_token 11 (.iconst 0) 1 12 := dnAt dc_X7_token 6 rfl rfl
theorem d_X7_token_12 : dn cX7_token 12 (.bipush 9) 2 14 := dnAt dc_X7_token 7 rfl rfl
theorem d_X7_token_14 : dn cX7_token 14 (.invokestatic 76) 3 17 := dnAt dc_X7_token 8 rfl rfl
theorem d_X7_token_17 : dn cX7_token 17 (.ifCond .eq 18) 3 20 := dnAt dc_X7_token 9 rfl rfl
theorem d_X7_token_20 : dn cX7_token 20 (.iload 4) 2 22 := dnAt dc_X7_token 10 rfl rfl
theorem d_X7_token_22 : dn cX7_token 22 (.iconst 0) 1 23 := dnAt dc_X7_token 11 rfl rfl
theorem d_X7_token_23 : dn cX7_token 23 (.bipush 49) 2 25 := dnAt dc_X7_token 12 rfl rfl
theorem d_X7_token_25 : dn cX7_token 25 (.invokestatic 76) 3 28 := dnAt dc_X7_token 13 rfl rfl
theorem d_X7_token_28 : dn cX7_token 28 (.ifCond .eq 7) 3 31 := dnAt dc_X7_token 14 rfl rfl
theorem d_X7_token_31 : dn cX7_token 31 (.iconst 1) 1 32 := dnAt dc_X7_token 15 rfl rfl
theorem d_X7_token_32 : dn cX7_token 32 (.goto 4) 3 35 := dnAt dc_X7_token 16 rfl rfl
theorem d_X7_token_35 : dn cX7_token 35 (.iconst 0) 1 36 := dnAt dc_X7_token 17 rfl rfl
theorem d_X7_token_36 : dn cX7_token 36 (.istore 5) 2 38 := dnAt dc_X7_token 18 rfl rfl
theorem d_X7_token_38 : dn cX7_token 38 (.aload_n 0) 1 39 := dnAt dc_X7_token 19 rfl rfl
theorem d_X7_token_39 : dn cX7_token 39 (.iload_n 1) 1 40 := dnAt dc_X7_token 20 rfl rfl
theorem d_X7_token_40 : dn cX7_token 40 (.invokestatic 80) 3 43 := dnAt dc_X7_token 21 rfl rfl
theorem d_X7_token_43 : dn cX7_token 43 (.ifCond .ne 7) 3 46 := dnAt dc_X7_token 22 rfl rfl
theorem d_X7_token_46 : dn cX7_token 46 (.iconst 1) 1 47 := dnAt dc_X7_token 23 rfl rfl
theorem d_X7_token_47 : dn cX7_token 47 (.goto 28) 3 50 := dnAt dc_X7_token 24 rfl rfl
theorem d_X7_token_50 : dn cX7_token 50 (.iload 5) 2 52 := dnAt dc_X7_token 25 rfl rfl
theorem d_X7_token_52 : dn cX7_token 52 (.ifCond .ne 7) 3 55 := dnAt dc_X7_token 26 rfl rfl
theorem d_X7_token_55 : dn cX7_token 55 (.iconst 2) 1 56 := dnAt dc_X7_token 27 rfl rfl
theorem d_X7_token_56 : dn cX7_token 56 (.goto 19) 3 59 := dnAt dc_X7_token 28 rfl rfl
theorem d_X7_token_59 : dn cX7_token 59 (.aload_n 0) 1 60 := dnAt dc_X7_token 29 rfl rfl
theorem d_X7_token_60 : dn cX7_token 60 (.getfield 7) 3 63 := dnAt dc_X7_token 30 rfl rfl
theorem d_X7_token_63 : dn cX7_token 63 (.iload_n 1) 1 64 := dnAt dc_X7_token 31 rfl rfl
theorem d_X7_token_64 : dn cX7_token 64 (.iaload) 1 65 := dnAt dc_X7_token 32 rfl rfl
theorem d_X7_token_65 : dn cX7_token 65 (.bipush 40) 2 67 := dnAt dc_X7_token 33 rfl rfl
theorem d_X7_token_67 : dn cX7_token 67 (.if_icmp .ne 7) 3 70 := dnAt dc_X7_token 34 rfl rfl
theorem d_X7_token_70 : dn cX7_token 70 (.iconst 3) 1 71 := dnAt dc_X7_token 35 rfl rfl
theorem d_X7_token_71 : dn cX7_token 71 (.goto 4) 3 74 := dnAt dc_X7_token 36 rfl rfl
theorem d_X7_token_74 : dn cX7_token 74 (.iconst 0) 1 75 := dnAt dc_X7_token 37 rfl rfl
theorem d_X7_token_75 : dn cX7_token 75 (.invokevirtual 84) 3 78 := dnAt dc_X7_token 38 rfl rfl
theorem d_X7_token_78 : dn cX7_token 78 (.ifCond .ne 5) 3 81 := dnAt dc_X7_token 39 rfl rfl
theorem d_X7_token_81 : dn cX7_token 81 (.iconst 0) 1 82 := dnAt dc_X7_token 40 rfl rfl
theorem d_X7_token_82 : dn cX7_token 82 (.ireturn) 1 83 := dnAt dc_X7_token 41 rfl rfl
theorem d_X7_token_83 : dn cX7_token 83 (.bipush 40) 2 85 := dnAt dc_X7_token 42 rfl rfl
theorem d_X7_token_85 : dn cX7_token 85 (.iload_n 1) 1 86 := dnAt dc_X7_token 43 rfl rfl
theorem d_X7_token_86 : dn cX7_token 86 (.imul) 1 87 := dnAt dc_X7_token 44 rfl rfl
theorem d_X7_token_87 : dn cX7_token 87 (.aload_n 0) 1 88 := dnAt dc_X7_token 45 rfl rfl
theorem d_X7_token_88 : dn cX7_token 88 (.getfield 7) 3 91 := dnAt dc_X7_token 46 rfl rfl
theorem d_X7_token_91 : dn cX7_token 91 (.iload_n 1) 1 92 := dnAt dc_X7_token 47 rfl rfl
theorem d_X7_token_92 : dn cX7_token 92 (.iaload) 1 93 := dnAt dc_X7_token 48 rfl rfl
theorem d_X7_token_93 : dn cX7_token 93 (.iadd) 1 94 := dnAt dc_X7_token 49 rfl rfl
theorem d_X7_token_94 : dn cX7_token 94 (.istore 6) 2 96 := dnAt dc_X7_token 50 rfl rfl
theorem d_X7_token_96 : dn cX7_token 96 (.aload_n 0) 1 97 := dnAt dc_X7_token 51 rfl rfl
theorem d_X7_token_97 : dn cX7_token 97 (.getfield 7) 3 100 := dnAt dc_X7_token 52 rfl rfl
theorem d_X7_token_100 : dn cX7_token 100 (.iload_n 1) 1 101 := dnAt dc_X7_token 53 rfl rfl
theorem d_X7_token_101 : dn cX7_token 101 (.iaload) 1 102 := dnAt dc_X7_token 54 rfl rfl
theorem d_X7_token_102 : dn cX7_token 102 (.ifCond .ne 7) 3 105 := dnAt dc_X7_token 55 rfl rfl
theorem d_X7_token_105 : dn cX7_token 105 (.iconst 1) 1 106 := dnAt dc_X7_token 56 rfl rfl
theorem d_X7_token_106 : dn cX7_token 106 (.goto 4) 3 109 := dnAt dc_X7_token 57 rfl rfl
theorem d_X7_token_109 : dn cX7_token 109 (.iconst 0) 1 110 := dnAt dc_X7_token 58 rfl rfl
theorem d_X7_token_110 : dn cX7_token 110 (.istore 7) 2 112 := dnAt dc_X7_token 59 rfl rfl
theorem d_X7_token_112 : dn cX7_token 112 (.aload_n 0) 1 113 := dnAt dc_X7_token 60 rfl rfl
theorem d_X7_token_113 : dn cX7_token 113 (.getfield 13) 3 116 := dnAt dc_X7_token 61 rfl rfl
theorem d_X7_token_116 : dn cX7_token 116 (.iconst 3) 1 117 := dnAt dc_X7_token 62 rfl rfl
theorem d_X7_token_117 : dn cX7_token 117 (.iload 6) 2 119 := dnAt dc_X7_token 63 rfl rfl
theorem d_X7_token_119 : dn cX7_token 119 (.imul) 1 120 := dnAt dc_X7_token 64 rfl rfl
theorem d_X7_token_120 : dn cX7_token 120 (.iconst 0) 1 121 := dnAt dc_X7_token 65 rfl rfl
theorem d_X7_token_121 : dn cX7_token 121 (.iadd) 1 122 := dnAt dc_X7_token 66 rfl rfl
theorem d_X7_token_122 : dn cX7_token 122 (.iload_n 2) 1 123 := dnAt dc_X7_token 67 rfl rfl
theorem d_X7_token_123 : dn cX7_token 123 (.iastore) 1 124 := dnAt dc_X7_token 68 rfl rfl
theorem d_X7_token_124 : dn cX7_token 124 (.aload_n 0) 1 125 := dnAt dc_X7_token 69 rfl rfl
theorem d_X7_token_125 : dn cX7_token 125 (.getfield 13) 3 128 := dnAt dc_X7_token 70 rfl rfl
theorem d_X7_token_128 : dn cX7_token 128 (.iconst 3) 1 129 := dnAt dc_X7_token 71 rfl rfl
theorem d_X7_token_129 : dn cX7_token 129 (.iload 6) 2 131 := dnAt dc_X7_token 72 rfl rfl
theorem d_X7_token_131 : dn cX7_token 131 (.imul) 1 132 := dnAt dc_X7_token 73 rfl rfl
theorem d_X7_token_132 : dn cX7_token 132 (.iconst 1) 1 133 := dnAt dc_X7_token 74 rfl rfl
theorem d_X7_token_133 : dn cX7_token 133 (.iadd) 1 134 := dnAt dc_X7_token 75 rfl rfl
theorem d_X7_token_134 : dn cX7_token 134 (.iload_n 3) 1 135 := dnAt dc_X7_token 76 rfl rfl
theorem d_X7_token_135 : dn cX7_token 135 (.iastore) 1 136 := dnAt dc_X7_token 77 rfl rfl
theorem d_X7_token_136 : dn cX7_token 136 (.aload_n 0) 1 137 := dnAt dc_X7_token 78 rfl rfl
theorem d_X7_token_137 : dn cX7_token 137 (.getfield 13) 3 140 := dnAt dc_X7_token 79 rfl rfl
theorem d_X7_token_140 : dn cX7_token 140 (.iconst 3) 1 141 := dnAt dc_X7_token 80 rfl rfl
theorem d_X7_token_141 : dn cX7_token 141 (.iload 6) 2 143 := dnAt dc_X7_token 81 rfl rfl
theorem d_X7_token_143 : dn cX7_token 143 (.imul) 1 144 := dnAt dc_X7_token 82 rfl rfl
theorem d_X7_token_144 : dn cX7_token 144 (.iconst 2) 1 145 := dnAt dc_X7_token 83 rfl rfl
theorem d_X7_token_145 : dn cX7_token 145 (.iadd) 1 146 := dnAt dc_X7_token 84 rfl rfl
theorem d_X7_token_146 : dn cX7_token 146 (.iload 4) 2 148 := dnAt dc_X7_token 85 rfl rfl
theorem d_X7_token_148 : dn cX7_token 148 (.iastore) 1 149 := dnAt dc_X7_token 86 rfl rfl
theorem d_X7_token_149 : dn cX7_token 149 (.aload_n 0) 1 150 := dnAt dc_X7_token 87 rfl rfl
theorem d_X7_token_150 : dn cX7_token 150 (.getfield 16) 3 153 := dnAt dc_X7_token 88 rfl rfl
theorem d_X7_token_153 : dn cX7_token 153 (.iload 6) 2 155 := dnAt dc_X7_token 89 rfl rfl
theorem d_X7_token_155 : dn cX7_token 155 (.iload 7) 2 157 := dnAt dc_X7_token 90 rfl rfl
theorem d_X7_token_157 : dn cX7_token 157 (.ifCond .eq 7) 3 160 := dnAt dc_X7_token 91 rfl rfl
theorem d_X7_token_160 : dn cX7_token 160 (.iconst 0) 1 161 := dnAt dc_X7_token 92 rfl rfl
theorem d_X7_token_161 : dn cX7_token 161 (.goto 27) 3 164 := dnAt dc_X7_token 93 rfl rfl
theorem d_X7_token_164 : dn cX7_token 164 (.aload_n 0) 1 165 := dnAt dc_X7_token 94 rfl rfl
theorem d_X7_token_165 : dn cX7_token 165 (.getfield 16) 3 168 := dnAt dc_X7_token 95 rfl rfl
theorem d_X7_token_168 : dn cX7_token 168 (.iload 6) 2 170 := dnAt dc_X7_token 96 rfl rfl
theorem d_X7_token_170 : dn cX7_token 170 (.iconst 1) 1 171 := dnAt dc_X7_token 97 rfl rfl
theorem d_X7_token_171 : dn cX7_token 171 (.isub) 1 172 := dnAt dc_X7_token 98 rfl rfl
theorem d_X7_token_172 : dn cX7_token 172 (.iaload) 1 173 := dnAt dc_X7_token 99 rfl rfl
theorem d_X7_token_173 : dn cX7_token 173 (.aload_n 0) 1 174 := dnAt dc_X7_token 100 rfl rfl
theorem d_X7_token_174 : dn cX7_token 174 (.getfield 22) 3 177 := dnAt dc_X7_token 101 rfl rfl
theorem d_X7_token_177 : dn cX7_token 177 (.iload_n 1) 1 178 := dnAt dc_X7_token 102 rfl rfl
theorem d_X7_token_178 : dn cX7_token 178 (.baload) 1 179 := dnAt dc_X7_token 103 rfl rfl
theorem d_X7_token_179 : dn cX7_token 179 (.ifCond .eq 7) 3 182 := dnAt dc_X7_token 104 rfl rfl
theorem d_X7_token_182 : dn cX7_token 182 (.iconst 1) 1 183 := dnAt dc_X7_token 105 rfl rfl
theorem d_X7_token_183 : dn cX7_token 183 (.goto 4) 3 186 := dnAt dc_X7_token 106 rfl rfl
theorem d_X7_token_186 : dn cX7_token 186 (.iconst 0) 1 187 := dnAt dc_X7_token 107 rfl rfl
theorem d_X7_token_187 : dn cX7_token 187 (.iadd) 1 188 := dnAt dc_X7_token 108 rfl rfl
theorem d_X7_token_188 : dn cX7_token 188 (.iastore) 1 189 := dnAt dc_X7_token 109 rfl rfl
theorem d_X7_token_189 : dn cX7_token 189 (.aload_n 0) 1 190 := dnAt dc_X7_token 110 rfl rfl
theorem d_X7_token_190 : dn cX7_token 190 (.getfield 19) 3 193 := dnAt dc_X7_token 111 rfl rfl
theorem d_X7_token_193 : dn cX7_token 193 (.iload 6) 2 195 := dnAt dc_X7_token 112 rfl rfl
theorem d_X7_token_195 : dn cX7_token 195 (.iload 7) 2 197 := dnAt dc_X7_token 113 rfl rfl
theorem d_X7_token_197 : dn cX7_token 197 (.ifCond .eq 7) 3 200 := dnAt dc_X7_token 114 rfl rfl
theorem d_X7_token_200 : dn cX7_token 200 (.iconst 0) 1 201 := dnAt dc_X7_token 115 rfl rfl
theorem d_X7_token_201 : dn cX7_token 201 (.goto 27) 3 204 := dnAt dc_X7_token 116 rfl rfl
theorem d_X7_token_204 : dn cX7_token 204 (.aload_n 0) 1 205 := dnAt dc_X7_token 117 rfl rfl
theorem d_X7_token_205 : dn cX7_token 205 (.getfield 19) 3 208 := dnAt dc_X7_token 118 rfl rfl
theorem d_X7_token_208 : dn cX7_token 208 (.iload 6) 2 210 := dnAt dc_X7_token 119 rfl rfl
theorem d_X7_token_210 : dn cX7_token 210 (.iconst 1) 1 211 := dnAt dc_X7_token 120 rfl rfl
theorem d_X7_token_211 : dn cX7_token 211 (.isub) 1 212 := dnAt dc_X7_token 121 rfl rfl
theorem d_X7_token_212 : dn cX7_token 212 (.iaload) 1 213 := dnAt dc_X7_token 122 rfl rfl
theorem d_X7_token_213 : dn cX7_token 213 (.aload_n 0) 1 214 := dnAt dc_X7_token 123 rfl rfl
theorem d_X7_token_214 : dn cX7_token 214 (.getfield 26) 3 217 := dnAt dc_X7_token 124 rfl rfl
theorem d_X7_token_217 : dn cX7_token 217 (.iload_n 1) 1 218 := dnAt dc_X7_token 125 rfl rfl
theorem d_X7_token_218 : dn cX7_token 218 (.baload) 1 219 := dnAt dc_X7_token 126 rfl rfl
theorem d_X7_token_219 : dn cX7_token 219 (.ifCond .eq 7) 3 222 := dnAt dc_X7_token 127 rfl rfl
theorem d_X7_token_222 : dn cX7_token 222 (.iconst 1) 1 223 := dnAt dc_X7_token 128 rfl rfl
theorem d_X7_token_223 : dn cX7_token 223 (.goto 4) 3 226 := dnAt dc_X7_token 129 rfl rfl
theorem d_X7_token_226 : dn cX7_token 226 (.iconst 0) 1 227 := dnAt dc_X7_token 130 rfl rfl
theorem d_X7_token_227 : dn cX7_token 227 (.iadd) 1 228 := dnAt dc_X7_token 131 rfl rfl
theorem d_X7_token_228 : dn cX7_token 228 (.iastore) 1 229 := dnAt dc_X7_token 132 rfl rfl
theorem d_X7_token_229 : dn cX7_token 229 (.aload_n 0) 1 230 := dnAt dc_X7_token 133 rfl rfl
theorem d_X7_token_230 : dn cX7_token 230 (.getfield 22) 3 233 := dnAt dc_X7_token 134 rfl rfl
theorem d_X7_token_233 : dn cX7_token 233 (.iload_n 1) 1 234 := dnAt dc_X7_token 135 rfl rfl
theorem d_X7_token_234 : dn cX7_token 234 (.iconst 0) 1 235 := dnAt dc_X7_token 136 rfl rfl
theorem d_X7_token_235 : dn cX7_token 235 (.bastore) 1 236 := dnAt dc_X7_token 137 rfl rfl
theorem d_X7_token_236 : dn cX7_token 236 (.aload_n 0) 1 237 := dnAt dc_X7_token 138 rfl rfl
theorem d_X7_token_237 : dn cX7_token 237 (.getfield 26) 3 240 := dnAt dc_X7_token 139 rfl rfl
theorem d_X7_token_240 : dn cX7_token 240 (.iload_n 1) 1 241 := dnAt dc_X7_token 140 rfl rfl
theorem d_X7_token_241 : dn cX7_token 241 (.iconst 0) 1 242 := dnAt dc_X7_token 141 rfl rfl
theorem d_X7_token_242 : dn cX7_token 242 (.bastore) 1 243 := dnAt dc_X7_token 142 rfl rfl
theorem d_X7_token_243 : dn cX7_token 243 (.aload_n 0) 1 244 := dnAt dc_X7_token 143 rfl rfl
theorem d_X7_token_244 : dn cX7_token 244 (.getfield 7) 3 247 := dnAt dc_X7_token 144 rfl rfl
theorem d_X7_token_247 : dn cX7_token 247 (.iload_n 1) 1 248 := dnAt dc_X7_token 145 rfl rfl
theorem d_X7_token_248 : dn cX7_token 248 (.dup2) 1 249 := dnAt dc_X7_token 146 rfl rfl
theorem d_X7_token_249 : dn cX7_token 249 (.iaload) 1 250 := dnAt dc_X7_token 147 rfl rfl
theorem d_X7_token_250 : dn cX7_token 250 (.iconst 1) 1 251 := dnAt dc_X7_token 148 rfl rfl
theorem d_X7_token_251 : dn cX7_token 251 (.iadd) 1 252 := dnAt dc_X7_token 149 rfl rfl
theorem d_X7_token_252 : dn cX7_token 252 (.iastore) 1 253 := dnAt dc_X7_token 150 rfl rfl
theorem d_X7_token_253 : dn cX7_token 253 (.aload_n 0) 1 254 := dnAt dc_X7_token 151 rfl rfl
theorem d_X7_token_254 : dn cX7_token 254 (.getfield 7) 3 257 := dnAt dc_X7_token 152 rfl rfl
theorem d_X7_token_257 : dn cX7_token 257 (.iload_n 1) 1 258 := dnAt dc_X7_token 153 rfl rfl
theorem d_X7_token_258 : dn cX7_token 258 (.iaload) 1 259 := dnAt dc_X7_token 154 rfl rfl
theorem d_X7_token_259 : dn cX7_token 259 (.iconst 1) 1 260 := dnAt dc_X7_token 155 rfl rfl
theorem d_X7_token_260 : dn cX7_token 260 (.isub) 1 261 := dnAt dc_X7_token 156 rfl rfl
theorem d_X7_token_261 : dn cX7_token 261 (.ireturn) 1 262 := dnAt dc_X7_token 157 rfl rfl
set_option maxHeartbeats 4000000 in
set_option maxRecDepth 100000 in
theorem m_token (S : mS) (side word kind root : Int32) (I : mInv S) : mC yX7_token cX7_token 8 (Option.some Jvm.ClassFile.FieldType.int) { frames := 2, cells := 0, slots := 0, locals := 42 } [.int side, .int word, .int kind, .int root] S (fun v9 T9 => v9 = (some (.int (nI (rToken S side word kind root)))) ∧ T9 = tToken S side word kind root) := by
  refine mC.of (by decide) (Nat.le_of_ble_eq_true rfl) ?_
  intro G x q h0 C A TY
  show VM G x q h0 S 0 [(0, .ref (q 0)), (1, .int side), (2, .int word), (3, .int kind), (4, .int root)] []
  have join_36 : VM G x q h0 S 36 [(0, .ref (q 0)), (1, .int side), (2, .int word), (3, .int kind), (4, .int root)] [.int (bI (inR word 0 99 && inR kind 0 9 && inR root 0 49))] := by
    refine m_istore C d_X7_token_36 (lv' := [(5, .int (bI (inR word 0 99 && inR kind 0 9 && inR root 0 49))), (0, .ref (q 0)), (1, .int side), (2, .int word), (3, .int kind), (4, .int root)]) (by decide) rfl ?_
    have join_75 : VM G x q h0 S 75 [(0, .ref (q 0)), (1, .int side), (2, .int word), (3, .int kind), (4, .int root)] [.int (nI (cToken S side word kind root)), .ref (q 0)] := by
      refine m_callV C d_X7_token_75 ok_RX7_84 (m_holds S (cToken S side word kind root) (by unfold cToken; split <;> (try split) <;> (try split) <;> omega)) rfl (rest := []) rfl rfl (Nat.le_of_ble_eq_true rfl) ⟨⟨by decide, by decide⟩, by decide, by decide⟩ (fun v9 T9 e9 => ?_)
      obtain ⟨rfl, e9⟩ := e9
      refine m_eq e9 ?_
      show VM G x q h0 (uK S 0 (cToken S side word kind root)) 78 [(0, .ref (q 0)), (1, .int side), (2, .int word), (3, .int kind), (4, .int root)] [.int (bI (decide (cToken S side word kind root = 0)))]
      refine mb_if_ne C d_X7_token_78 (tgt := 83) rfl (fun c_78 => ?_) (fun c_78 => ?_)
      · skip
        have c0 := of_decide_eq_true c_78
        obtain ⟨c1, c2, c3, c4, c5⟩ := cToken_0 c0
        obtain ⟨e1, -, e2⟩ := inR_of c1 (by decide) (by decide)
        obtain ⟨e3, -, e4⟩ := inR_of c2 (by decide) (by decide)
        obtain ⟨e5, -, e6⟩ := inR_of c3 (by decide) (by decide)
        obtain ⟨e7, -, e8⟩ := inR_of c4 (by decide) (by decide)
        have i1 := I.1 (tn side) (by omega)
        have i2 : mN S 1 (tn side) < 40 := by omega
        rw [c0]
        refine m_lve (lv' := [(0, .ref (q 0)), (1, .int (nI (tn side))), (2, .int (nI (tn word))), (3, .int (nI (tn kind))), (4, .int (nI (tn root)))]) (by rw [← e1, ← e3, ← e5, ← e7]) ?_
        refine m_bipush C d_X7_token_83 (v := (nI 40)) rfl ?_
        refine m_iload_n C d_X7_token_85 1 rfl ?_
        refine mn_imul C d_X7_token_86 ?_
        refine m_aload_n C d_X7_token_87 0 rfl ?_
        refine m_get C d_X7_token_88 fd_RX7_7 (v := .ref (q 1)) rfl ?_
        refine m_iload_n C d_X7_token_91 1 rfl ?_
        refine m_ald C d_X7_token_92 (k := 1) (by decide) rfl (by show _ < 2; omega) (by decide) ?_
        refine m_st (st' := [.int (nI (mN S 1 (tn side))), .int (nI (40 * (tn side)))]) rfl ?_
        refine mn_iadd C d_X7_token_93 ?_
        refine m_istore C d_X7_token_94 (lv' := [(6, .int (nI ((40 * (tn side)) + (mN S 1 (tn side))))), (0, .ref (q 0)), (1, .int (nI (tn side))), (2, .int (nI (tn word))), (3, .int (nI (tn kind))), (4, .int (nI (tn root)))]) (by decide) rfl ?_
        have join_110 : VM G x q h0 (uK S 0 0) 110 [(0, .ref (q 0)), (1, .int (nI (tn side))), (2, .int (nI (tn word))), (3, .int (nI (tn kind))), (4, .int (nI (tn root))), (6, .int (nI (40 * tn side + mN S 1 (tn side))))] [.int (bI (decide (mN S 1 (tn side) = 0)))] := by
          refine m_istore C d_X7_token_110 (lv' := [(7, .int (bI (decide (mN S 1 (tn side) = 0)))), (0, .ref (q 0)), (1, .int (nI (tn side))), (2, .int (nI (tn word))), (3, .int (nI (tn kind))), (4, .int (nI (tn root))), (6, .int (nI (40 * tn side + mN S 1 (tn side))))]) (by decide) rfl ?_
          refine m_aload_n C d_X7_token_112 1 rfl ?_
          refine m_get C d_X7_token_113 fd_RX7_13 (v := .ref (q 2)) rfl ?_
          refine m_iconst C d_X7_token_116 (v := (nI 3)) rfl ?_
          refine m_iload C d_X7_token_117 6 rfl ?_
          refine mn_imul C d_X7_token_119 ?_
          refine m_iconst C d_X7_token_120 (v := (nI 0)) rfl ?_
          refine mn_iadd C d_X7_token_121 ?_
          refine m_iload_n C d_X7_token_122 3 rfl ?_
          refine m_ast C d_X7_token_123 (k := 2) (v := tn word) (by decide) rfl (by show _ < 240; omega) (by decide) ?_
          refine m_aload_n C d_X7_token_124 1 rfl ?_
          refine m_get C d_X7_token_125 fd_RX7_13 (v := .ref (q 2)) rfl ?_
          refine m_iconst C d_X7_token_128 (v := (nI 3)) rfl ?_
          refine m_iload C d_X7_token_129 6 rfl ?_
          refine mn_imul C d_X7_token_131 ?_
          refine m_iconst C d_X7_token_132 (v := (nI 1)) rfl ?_
          refine mn_iadd C d_X7_token_133 ?_
          refine m_iload_n C d_X7_token_134 4 rfl ?_
          refine m_ast C d_X7_token_135 (k := 2) (v := tn kind) (by decide) rfl (by show _ < 240; omega) (by decide) ?_
          refine m_aload_n C d_X7_token_136 1 rfl ?_
          refine m_get C d_X7_token_137 fd_RX7_13 (v := .ref (q 2)) rfl ?_
          refine m_iconst C d_X7_token_140 (v := (nI 3)) rfl ?_
          refine m_iload C d_X7_token_141 6 rfl ?_
          refine mn_imul C d_X7_token_143 ?_
          refine m_iconst C d_X7_token_144 (v := (nI 2)) rfl ?_
          refine mn_iadd C d_X7_token_145 ?_
          refine m_iload C d_X7_token_146 5 rfl ?_
          refine m_ast C d_X7_token_148 (k := 2) (v := tn root) (by decide) rfl (by show _ < 240; omega) (by decide) ?_
          have join_188 : VM G x q h0 (uN (uN (uN (uK S 0 0) 2 ((3 * (40 * tn side + mN S 1 (tn side))) + 0) (tn word)) 2 ((3 * (40 * tn side + mN S 1 (tn side))) + 1) (tn kind)) 2 ((3 * (40 * tn side + mN S 1 (tn side))) + 2) (tn root)) 188 [(0, .ref (q 0)), (1, .int (nI (tn side))), (2, .int (nI (tn word))), (3, .int (nI (tn kind))), (4, .int (nI (tn root))), (6, .int (nI (40 * tn side + mN S 1 (tn side)))), (7, .int (bI (decide (mN S 1 (tn side) = 0))))] [.int (nI (if mN S 1 (tn side) = 0 then 0 else mN S 3 (40 * tn side + mN S 1 (tn side) - 1) + (mB S 5 (tn side)).toNat)), .int (nI (40 * tn side + mN S 1 (tn side))), .ref (q 3)] := by
            refine m_ast C d_X7_token_188 (k := 3) (v := if mN S 1 (tn side) = 0 then 0 else mN S 3 (40 * tn side + mN S 1 (tn side) - 1) + (mB S 5 (tn side)).toNat) (by decide) rfl (by show _ < 80; omega) (by decide) ?_
            have join_228 : VM G x q h0 (uN (uN (uN (uN (uK S 0 0) 2 ((3 * (40 * tn side + mN S 1 (tn side))) + 0) (tn word)) 2 ((3 * (40 * tn side + mN S 1 (tn side))) + 1) (tn kind)) 2 ((3 * (40 * tn side + mN S 1 (tn side))) + 2) (tn root)) 3 (40 * tn side + mN S 1 (tn side)) (if mN S 1 (tn side) = 0 then 0 else mN S 3 (40 * tn side + mN S 1 (tn side) - 1) + (mB S 5 (tn side)).toNat)) 228 [(0, .ref (q 0)), (1, .int (nI (tn side))), (2, .int (nI (tn word))), (3, .int (nI (tn kind))), (4, .int (nI (tn root))), (6, .int (nI (40 * tn side + mN S 1 (tn side)))), (7, .int (bI (decide (mN S 1 (tn side) = 0))))] [.int (nI (if mN S 1 (tn side) = 0 then 0 else mN S 4 (40 * tn side + mN S 1 (tn side) - 1) + (mB S 6 (tn side)).toNat)), .int (nI (40 * tn side + mN S 1 (tn side))), .ref (q 4)] := by
              refine m_ast C d_X7_token_228 (k := 4) (v := if mN S 1 (tn side) = 0 then 0 else mN S 4 (40 * tn side + mN S 1 (tn side) - 1) + (mB S 6 (tn side)).toNat) (by decide) rfl (by show _ < 80; omega) (by decide) ?_
              refine m_aload_n C d_X7_token_229 0 rfl ?_
              refine m_get C d_X7_token_230 fd_RX7_22 (v := .ref (q 5)) rfl ?_
              refine m_iload_n C d_X7_token_233 1 rfl ?_
              refine m_iconst C d_X7_token_234 (v := (bI false)) rfl ?_
              refine m_zst C d_X7_token_235 (k := 5) (v := false) (by decide) rfl (by show _ < 2; omega) (by decide) ?_
              refine m_aload_n C d_X7_token_236 0 rfl ?_
              refine m_get C d_X7_token_237 fd_RX7_26 (v := .ref (q 6)) rfl ?_
              refine m_iload_n C d_X7_token_240 1 rfl ?_
              refine m_iconst C d_X7_token_241 (v := (bI false)) rfl ?_
              refine m_zst C d_X7_token_242 (k := 6) (v := false) (by decide) rfl (by show _ < 2; omega) (by decide) ?_
              refine m_aload_n C d_X7_token_243 0 rfl ?_
              refine m_get C d_X7_token_244 fd_RX7_7 (v := .ref (q 1)) rfl ?_
              refine m_iload_n C d_X7_token_247 1 rfl ?_
              refine m_dup2 C d_X7_token_248 rfl rfl ?_
              refine m_ald C d_X7_token_249 (k := 1) (by decide) rfl (by show _ < 2; omega) (by decide) ?_
              refine m_st (st' := [.int (nI (mN S 1 (tn side))), .int (nI (tn side)), .ref (q 1)]) rfl ?_
              refine m_iconst C d_X7_token_250 (v := (nI 1)) rfl ?_
              refine mn_iadd C d_X7_token_251 ?_
              refine m_ast C d_X7_token_252 (k := 1) (v := (mN S 1 (tn side)) + 1) (by decide) rfl (by show _ < 2; omega) (by decide) ?_
              refine m_aload_n C d_X7_token_253 0 rfl ?_
              refine m_get C d_X7_token_254 fd_RX7_7 (v := .ref (q 1)) rfl ?_
              refine m_iload_n C d_X7_token_257 1 rfl ?_
              refine m_ald C d_X7_token_258 (k := 1) (by decide) rfl (by show _ < 2; omega) (by decide) ?_
              refine m_st (st' := [.int (nI ((mN S 1 (tn side)) + 1))]) (by simp only [mN_uN, mB_uB, mI_uI, and_self, if_true]) ?_
              refine m_iconst C d_X7_token_259 (v := (nI 1)) rfl ?_
              refine mn_isub C d_X7_token_260 (by omega) ?_
              refine m_st (st' := [.int (nI (rToken S side word kind root))]) (by rw [rToken, if_pos c0, Nat.add_sub_cancel]) ?_
              exact m_iret C A TY d_X7_token_261 rfl (⟨rfl, by rw [tToken, if_pos c0]⟩)
            refine m_aload_n C d_X7_token_189 0 rfl ?_
            refine m_get C d_X7_token_190 fd_RX7_19 (v := .ref (q 4)) rfl ?_
            refine m_iload C d_X7_token_193 5 rfl ?_
            refine m_iload C d_X7_token_195 6 rfl ?_
            refine mb_if_eq C d_X7_token_197 (tgt := 204) rfl (fun c_197 => ?_) (fun c_197 => ?_)
            · skip
              have c6 := of_decide_eq_false c_197
              refine m_aload_n C d_X7_token_204 0 rfl ?_
              refine m_get C d_X7_token_205 fd_RX7_19 (v := .ref (q 4)) rfl ?_
              refine m_iload C d_X7_token_208 5 rfl ?_
              refine m_iconst C d_X7_token_210 (v := (nI 1)) rfl ?_
              refine mn_isub C d_X7_token_211 (by omega) ?_
              refine m_ald C d_X7_token_212 (k := 4) (by decide) rfl (by show _ < 80; omega) (by decide) ?_
              refine m_st (st' := [.int (nI (mN S 4 ((40 * tn side + mN S 1 (tn side)) - 1))), .int (nI (40 * tn side + mN S 1 (tn side))), .ref (q 4)]) rfl ?_
              refine m_aload_n C d_X7_token_213 0 rfl ?_
              refine m_get C d_X7_token_214 fd_RX7_26 (v := .ref (q 6)) rfl ?_
              refine m_iload_n C d_X7_token_217 1 rfl ?_
              refine m_zld C d_X7_token_218 (k := 6) (by decide) rfl (by show _ < 2; omega) (by decide) ?_
              refine m_st (st' := [.int (bI (mB S 6 (tn side))), .int (nI (mN S 4 ((40 * tn side + mN S 1 (tn side)) - 1))), .int (nI (40 * tn side + mN S 1 (tn side))), .ref (q 4)]) rfl ?_
              refine mb_if_eq C d_X7_token_219 (tgt := 226) rfl (fun c_219 => ?_) (fun c_219 => ?_)
              · skip
                refine m_iconst C d_X7_token_226 (v := (nI 0)) rfl ?_
                refine mn_iadd C d_X7_token_227 ?_
                refine m_st (st' := [.int (nI (if mN S 1 (tn side) = 0 then 0 else mN S 4 (40 * tn side + mN S 1 (tn side) - 1) + (mB S 6 (tn side)).toNat)), .int (nI (40 * tn side + mN S 1 (tn side))), .ref (q 4)]) (by first | rw [if_pos (of_decide_eq_true c_197)] | (rw [if_neg (of_decide_eq_false c_197), c_219]; rfl)) ?_
                exact join_228  
              · skip
                refine m_iconst C d_X7_token_222 (v := (nI 1)) rfl ?_
                refine m_goto C d_X7_token_223 (tgt := 227) rfl ?_
                refine mn_iadd C d_X7_token_227 ?_
                refine m_st (st' := [.int (nI (if mN S 1 (tn side) = 0 then 0 else mN S 4 (40 * tn side + mN S 1 (tn side) - 1) + (mB S 6 (tn side)).toNat)), .int (nI (40 * tn side + mN S 1 (tn side))), .ref (q 4)]) (by first | rw [if_pos (of_decide_eq_true c_197)] | (rw [if_neg (of_decide_eq_false c_197), c_219]; rfl)) ?_
                exact join_228  
            · skip
              refine m_iconst C d_X7_token_200 (v := (nI 0)) rfl ?_
              refine m_goto C d_X7_token_201 (tgt := 228) rfl ?_
              refine m_st (st' := [.int (nI (if mN S 1 (tn side) = 0 then 0 else mN S 4 (40 * tn side + mN S 1 (tn side) - 1) + (mB S 6 (tn side)).toNat)), .int (nI (40 * tn side + mN S 1 (tn side))), .ref (q 4)]) (by first | rw [if_pos (of_decide_eq_true c_197)] | (rw [if_neg (of_decide_eq_false c_197), c_219]; rfl)) ?_
              exact join_228  
          refine m_aload_n C d_X7_token_149 1 rfl ?_
          refine m_get C d_X7_token_150 fd_RX7_16 (v := .ref (q 3)) rfl ?_
          refine m_iload C d_X7_token_153 6 rfl ?_
          refine m_iload C d_X7_token_155 0 rfl ?_
          refine mb_if_eq C d_X7_token_157 (tgt := 164) rfl (fun c_157 => ?_) (fun c_157 => ?_)
          · skip
            have c6 := of_decide_eq_false c_157
            refine m_aload_n C d_X7_token_164 1 rfl ?_
            refine m_get C d_X7_token_165 fd_RX7_16 (v := .ref (q 3)) rfl ?_
            refine m_iload C d_X7_token_168 6 rfl ?_
            refine m_iconst C d_X7_token_170 (v := (nI 1)) rfl ?_
            refine mn_isub C d_X7_token_171 (by omega) ?_
            refine m_ald C d_X7_token_172 (k := 3) (by decide) rfl (by show _ < 80; omega) (by decide) ?_
            refine m_st (st' := [.int (nI (mN S 3 ((40 * tn side + mN S 1 (tn side)) - 1))), .int (nI (40 * tn side + mN S 1 (tn side))), .ref (q 3)]) rfl ?_
            refine m_aload_n C d_X7_token_173 1 rfl ?_
            refine m_get C d_X7_token_174 fd_RX7_22 (v := .ref (q 5)) rfl ?_
            refine m_iload_n C d_X7_token_177 2 rfl ?_
            refine m_zld C d_X7_token_178 (k := 5) (by decide) rfl (by show _ < 2; omega) (by decide) ?_
            refine m_st (st' := [.int (bI (mB S 5 (tn side))), .int (nI (mN S 3 ((40 * tn side + mN S 1 (tn side)) - 1))), .int (nI (40 * tn side + mN S 1 (tn side))), .ref (q 3)]) rfl ?_
            refine mb_if_eq C d_X7_token_179 (tgt := 186) rfl (fun c_179 => ?_) (fun c_179 => ?_)
            · skip
              refine m_iconst C d_X7_token_186 (v := (nI 0)) rfl ?_
              refine mn_iadd C d_X7_token_187 ?_
              refine m_lv (lv' := [(0, .ref (q 0)), (1, .int (nI (tn side))), (2, .int (nI (tn word))), (3, .int (nI (tn kind))), (4, .int (nI (tn root))), (6, .int (nI (40 * tn side + mN S 1 (tn side)))), (7, .int (bI (decide (mN S 1 (tn side) = 0))))]) [1, 2, 3, 4, 5, 6, 0] rfl ?_
              refine m_st (st' := [.int (nI (if mN S 1 (tn side) = 0 then 0 else mN S 3 (40 * tn side + mN S 1 (tn side) - 1) + (mB S 5 (tn side)).toNat)), .int (nI (40 * tn side + mN S 1 (tn side))), .ref (q 3)]) (by first | rw [if_pos (of_decide_eq_true c_157)] | (rw [if_neg (of_decide_eq_false c_157), c_179]; rfl)) ?_
              exact join_188  
            · skip
              refine m_iconst C d_X7_token_182 (v := (nI 1)) rfl ?_
              refine m_goto C d_X7_token_183 (tgt := 187) rfl ?_
              refine mn_iadd C d_X7_token_187 ?_
              refine m_lv (lv' := [(0, .ref (q 0)), (1, .int (nI (tn side))), (2, .int (nI (tn word))), (3, .int (nI (tn kind))), (4, .int (nI (tn root))), (6, .int (nI (40 * tn side + mN S 1 (tn side)))), (7, .int (bI (decide (mN S 1 (tn side) = 0))))]) [1, 2, 3, 4, 5, 6, 0] rfl ?_
              refine m_st (st' := [.int (nI (if mN S 1 (tn side) = 0 then 0 else mN S 3 (40 * tn side + mN S 1 (tn side) - 1) + (mB S 5 (tn side)).toNat)), .int (nI (40 * tn side + mN S 1 (tn side))), .ref (q 3)]) (by first | rw [if_pos (of_decide_eq_true c_157)] | (rw [if_neg (of_decide_eq_false c_157), c_179]; rfl)) ?_
              exact join_188  
          · skip
            refine m_iconst C d_X7_token_160 (v := (nI 0)) rfl ?_
            refine m_goto C d_X7_token_161 (tgt := 188) rfl ?_
            refine m_lv (lv' := [(0, .ref (q 0)), (1, .int (nI (tn side))), (2, .int (nI (tn word))), (3, .int (nI (tn kind))), (4, .int (nI (tn root))), (6, .int (nI (40 * tn side + mN S 1 (tn side)))), (7, .int (bI (decide (mN S 1 (tn side) = 0))))]) [1, 2, 3, 4, 5, 6, 0] rfl ?_
            refine m_st (st' := [.int (nI (if mN S 1 (tn side) = 0 then 0 else mN S 3 (40 * tn side + mN S 1 (tn side) - 1) + (mB S 5 (tn side)).toNat)), .int (nI (40 * tn side + mN S 1 (tn side))), .ref (q 3)]) (by first | rw [if_pos (of_decide_eq_true c_157)] | (rw [if_neg (of_decide_eq_false c_157), c_179]; rfl)) ?_
            exact join_188  
        refine m_aload_n C d_X7_token_96 1 rfl ?_
        refine m_get C d_X7_token_97 fd_RX7_7 (v := .ref (q 1)) rfl ?_
        refine m_iload_n C d_X7_token_100 2 rfl ?_
        refine m_ald C d_X7_token_101 (k := 1) (by decide) rfl (by show _ < 2; omega) (by decide) ?_
        refine m_st (st' := [.int (nI (mN S 1 (tn side)))]) rfl ?_
        refine mn_if_ne C d_X7_token_102 (tgt := 109) rfl (by omega) (fun c_102 => ?_) (fun c_102 => ?_)
        · skip
          refine m_iconst C d_X7_token_109 (v := (bI false)) rfl ?_
          refine m_lv (lv' := [(0, .ref (q 0)), (1, .int (nI (tn side))), (2, .int (nI (tn word))), (3, .int (nI (tn kind))), (4, .int (nI (tn root))), (6, .int (nI ((40 * (tn side)) + (mN S 1 (tn side)))))]) [1, 2, 3, 4, 5, 0] rfl ?_
          refine m_lve (lv' := [(0, .ref (q 0)), (1, .int (nI (tn side))), (2, .int (nI (tn word))), (3, .int (nI (tn kind))), (4, .int (nI (tn root))), (6, .int (nI (40 * tn side + mN S 1 (tn side))))]) (rfl) ?_
          refine m_st (st' := [.int (bI (decide (mN S 1 (tn side) = 0)))]) (by first | rw [decide_eq_true c_102] | rw [decide_eq_false (by omega)]) ?_
          exact join_110  
        · skip
          refine m_iconst C d_X7_token_105 (v := (bI true)) rfl ?_
          refine m_goto C d_X7_token_106 (tgt := 110) rfl ?_
          refine m_lv (lv' := [(0, .ref (q 0)), (1, .int (nI (tn side))), (2, .int (nI (tn word))), (3, .int (nI (tn kind))), (4, .int (nI (tn root))), (6, .int (nI ((40 * (tn side)) + (mN S 1 (tn side)))))]) [1, 2, 3, 4, 5, 0] rfl ?_
          refine m_lve (lv' := [(0, .ref (q 0)), (1, .int (nI (tn side))), (2, .int (nI (tn word))), (3, .int (nI (tn kind))), (4, .int (nI (tn root))), (6, .int (nI (40 * tn side + mN S 1 (tn side))))]) (rfl) ?_
          refine m_st (st' := [.int (bI (decide (mN S 1 (tn side) = 0)))]) (by first | rw [decide_eq_true c_102] | rw [decide_eq_false (by omega)]) ?_
          exact join_110  
      · skip
        have c1 := of_decide_eq_false c_78
        refine m_iconst C d_X7_token_81 (v := (nI 0)) rfl ?_
        refine m_st (st' := [.int (nI (rToken S side word kind root))]) (by rw [rToken, if_neg c1]) ?_
        exact m_iret C A TY d_X7_token_82 rfl (⟨rfl, by rw [tToken, if_neg c1]⟩)
    refine m_aload_n C d_X7_token_38 1 rfl ?_
    refine m_iload_n C d_X7_token_39 2 rfl ?_
    refine m_callS C d_X7_token_40 ok_RX7_80 (s_isSide side) (rest := [.ref (q 0)]) rfl rfl (Nat.le_of_ble_eq_true rfl) ⟨⟨by decide, by decide⟩, by decide, by decide⟩ ?_
    show VM G x q h0 S 43 [(5, .int (bI (inR word 0 99 && inR kind 0 9 && inR root 0 49))), (0, .ref (q 0)), (1, .int side), (2, .int word), (3, .int kind), (4, .int root)] [.int (bI (inR side 0 1)), .ref (q 0)]
    refine mb_if_ne C d_X7_token_43 (tgt := 50) rfl (fun c_43 => ?_) (fun c_43 => ?_)
    · skip
      obtain ⟨e1, -, e2⟩ := inR_of c_43 (by decide) (by decide)
      have i1 := I.1 (tn side) (by omega)
      refine m_lve (lv' := [(5, .int (bI (inR word 0 99 && inR kind 0 9 && inR root 0 49))), (0, .ref (q 0)), (1, .int (nI (tn side))), (2, .int word), (3, .int kind), (4, .int root)]) (by rw [← e1]) ?_
      refine m_iload C d_X7_token_50 0 rfl ?_
      refine mb_if_ne C d_X7_token_52 (tgt := 59) rfl (fun c_52 => ?_) (fun c_52 => ?_)
      · skip
        refine m_aload_n C d_X7_token_59 1 rfl ?_
        refine m_get C d_X7_token_60 fd_RX7_7 (v := .ref (q 1)) rfl ?_
        refine m_iload_n C d_X7_token_63 2 rfl ?_
        refine m_ald C d_X7_token_64 (k := 1) (by decide) rfl (by show _ < 2; omega) (by decide) ?_
        refine m_bipush C d_X7_token_65 (v := (nI 40)) rfl ?_
        refine mn_icmp_ne C d_X7_token_67 (tgt := 74) rfl (by omega) (by omega) (fun c_67 => ?_) (fun c_67 => ?_)
        · skip
          refine m_iconst C d_X7_token_74 (v := (nI 0)) rfl ?_
          refine m_lv (lv' := [(0, .ref (q 0)), (1, .int (nI (tn side))), (2, .int word), (3, .int kind), (4, .int root)]) [1, 2, 3, 4, 5] rfl ?_
          refine m_lve (lv' := [(0, .ref (q 0)), (1, .int side), (2, .int word), (3, .int kind), (4, .int root)]) (by rw [← e1]) ?_
          refine m_st (st' := [.int (nI (cToken S side word kind root)), .ref (q 0)]) (by first | (rw [cToken, if_pos c_43, if_pos c_52]; first | rw [if_pos c_67] | rw [if_neg (by omega)]) | (rw [cToken, if_pos c_43, if_neg (by rw [c_52]; decide)]) | rw [cToken, if_neg (by rw [c_43]; decide)]) ?_
          exact join_75  
        · skip
          refine m_iconst C d_X7_token_70 (v := (nI 3)) rfl ?_
          refine m_goto C d_X7_token_71 (tgt := 75) rfl ?_
          refine m_lv (lv' := [(0, .ref (q 0)), (1, .int (nI (tn side))), (2, .int word), (3, .int kind), (4, .int root)]) [1, 2, 3, 4, 5] rfl ?_
          refine m_lve (lv' := [(0, .ref (q 0)), (1, .int side), (2, .int word), (3, .int kind), (4, .int root)]) (by rw [← e1]) ?_
          refine m_st (st' := [.int (nI (cToken S side word kind root)), .ref (q 0)]) (by first | (rw [cToken, if_pos c_43, if_pos c_52]; first | rw [if_pos c_67] | rw [if_neg (by omega)]) | (rw [cToken, if_pos c_43, if_neg (by rw [c_52]; decide)]) | rw [cToken, if_neg (by rw [c_43]; decide)]) ?_
          exact join_75  
      · skip
        refine m_iconst C d_X7_token_55 (v := (nI 2)) rfl ?_
        refine m_goto C d_X7_token_56 (tgt := 75) rfl ?_
        refine m_lv (lv' := [(0, .ref (q 0)), (1, .int (nI (tn side))), (2, .int word), (3, .int kind), (4, .int root)]) [1, 2, 3, 4, 5] rfl ?_
        refine m_lve (lv' := [(0, .ref (q 0)), (1, .int side), (2, .int word), (3, .int kind), (4, .int root)]) (by rw [← e1]) ?_
        refine m_st (st' := [.int (nI (cToken S side word kind root)), .ref (q 0)]) (by first | (rw [cToken, if_pos c_43, if_pos c_52]; first | rw [if_pos c_67] | rw [if_neg (by omega)]) | (rw [cToken, if_pos c_43, if_neg (by rw [c_52]; decide)]) | rw [cToken, if_neg (by rw [c_43]; decide)]) ?_
        exact join_75  
    · skip
      refine m_iconst C d_X7_token_46 (v := (nI 1)) rfl ?_
      refine m_goto C d_X7_token_47 (tgt := 75) rfl ?_
      refine m_lv (lv' := [(0, .ref (q 0)), (1, .int side), (2, .int word), (3, .int kind), (4, .int root)]) [1, 2, 3, 4, 5] rfl ?_
      refine m_st (st' := [.int (nI (cToken S side word kind root)), .ref (q 0)]) (by first | (rw [cToken, if_pos c_43, if_pos c_52]; first | rw [if_pos c_67] | rw [if_neg (by omega)]) | (rw [cToken, if_pos c_43, if_neg (by rw [c_52]; decide)]) | rw [cToken, if_neg (by rw [c_43]; decide)]) ?_
      exact join_75  
  refine m_iload_n C d_X7_token_0 2 rfl ?_
  refine m_iconst C d_X7_token_1 (v := (nI 0)) rfl ?_
  refine m_bipush C d_X7_token_2 (v := (nI 99)) rfl ?_
  refine m_callS C d_X7_token_4 ok_RX7_76 (s_isIn word ((nI 0)) ((nI 99))) (rest := []) rfl rfl (Nat.le_of_ble_eq_true rfl) ⟨⟨by decide, by decide⟩, by decide, by decide⟩ ?_
  show VM G x q h0 S 7 [(0, .ref (q 0)), (1, .int side), (2, .int word), (3, .int kind), (4, .int root)] [.int (bI (inR word 0 99))]
  refine mb_if_eq C d_X7_token_7 (tgt := 35) rfl (fun c_7 => ?_) (fun c_7 => ?_)
  · skip
    refine m_iconst C d_X7_token_35 (v := (bI false)) rfl ?_
    refine m_st (st' := [.int (bI (inR word 0 99 && inR kind 0 9 && inR root 0 49))]) (by first | (rw [c_7, c_17, c_28]; rfl) | (rw [c_7, c_17]; rfl) | (rw [c_7]; rfl)) ?_
    exact join_36  
  · skip
    refine m_iload_n C d_X7_token_10 3 rfl ?_
    refine m_iconst C d_X7_token_11 (v := (nI 0)) rfl ?_
    refine m_bipush C d_X7_token_12 (v := (nI 9)) rfl ?_
    refine m_callS C d_X7_token_14 ok_RX7_76 (s_isIn kind ((nI 0)) ((nI 9))) (rest := []) rfl rfl (Nat.le_of_ble_eq_true rfl) ⟨⟨by decide, by decide⟩, by decide, by decide⟩ ?_
    show VM G x q h0 S 17 [(0, .ref (q 0)), (1, .int side), (2, .int word), (3, .int kind), (4, .int root)] [.int (bI (inR kind 0 9))]
    refine mb_if_eq C d_X7_token_17 (tgt := 35) rfl (fun c_17 => ?_) (fun c_17 => ?_)
    · skip
      refine m_iconst C d_X7_token_35 (v := (bI false)) rfl ?_
      refine m_st (st' := [.int (bI (inR word 0 99 && inR kind 0 9 && inR root 0 49))]) (by first | (rw [c_7, c_17, c_28]; rfl) | (rw [c_7, c_17]; rfl) | (rw [c_7]; rfl)) ?_
      exact join_36  
    · skip
      refine m_iload C d_X7_token_20 4 rfl ?_
      refine m_iconst C d_X7_token_22 (v := (nI 0)) rfl ?_
      refine m_bipush C d_X7_token_23 (v := (nI 49)) rfl ?_
      refine m_callS C d_X7_token_25 ok_RX7_76 (s_isIn root ((nI 0)) ((nI 49))) (rest := []) rfl rfl (Nat.le_of_ble_eq_true rfl) ⟨⟨by decide, by decide⟩, by decide, by decide⟩ ?_
      show VM G x q h0 S 28 [(0, .ref (q 0)), (1, .int side), (2, .int word), (3, .int kind), (4, .int root)] [.int (bI (inR root 0 49))]
      refine mb_if_eq C d_X7_token_28 (tgt := 35) rfl (fun c_28 => ?_) (fun c_28 => ?_)
      · skip
        refine m_iconst C d_X7_token_35 (v := (bI false)) rfl ?_
        refine m_st (st' := [.int (bI (inR word 0 99 && inR kind 0 9 && inR root 0 49))]) (by first | (rw [c_7, c_17, c_28]; rfl) | (rw [c_7, c_17]; rfl) | (rw [c_7]; rfl)) ?_
        exact join_36  
      · skip
        refine m_iconst C d_X7_token_31 (v := (bI true)) rfl ?_
        refine m_goto C d_X7_token_32 (tgt := 36) rfl ?_
        refine m_st (st' := [.int (bI (inR word 0 99 && inR kind 0 9 && inR root 0 49))]) (by first | (rw [c_7, c_17, c_28]; rfl) | (rw [c_7, c_17]; rfl) | (rw [c_7]; rfl)) ?_
        exact join_36  
def dl_X7_align : List (Nat × Instr × Nat) := [(0, .aload_n 0, 1), (1, .iload_n 1, 1), (2, .iconst 0, 1), (3, .aload_n 0, 1), (4, .iconst 0, 1), (5, .invokevirtual 87, 3), (8, .iconst 1, 1), (9, .isub, 1), (10, .invokestatic 76, 3), (13, .ifCond .eq 22, 3), (16, .iload_n 2, 1), (17, .iconst 0, 1), (18, .aload_n 0, 1), (19, .iconst 1, 1), (20, .invokevirtual 87, 3), (23, .iconst 1, 1), (24, .isub, 1), (25, .invokestatic 76, 3), (28, .ifCond .eq 7, 3), (31, .iconst 0, 1), (32, .goto 4, 3), (35, .iconst 1, 1), (36, .invokevirtual 84, 3), (39, .ifCond .ne 5, 3), (42, .iconst 0, 1), (43, .ireturn, 1), (44, .aload_n 0, 1), (45, .getfield 29, 3), (48, .iload_n 1, 1), (49, .dup2, 1), (50, .laload, 1), (51, .lconst 1, 1), (52, .iload_n 2, 1), (53, .lshl, 1), (54, .lor, 1), (55, .lastore, 1), (56, .iconst 0, 1), (57, .istore_n 3, 1), (58, .iconst 0, 1), (59, .istore 4, 2), (61, .iload 4, 2), (63, .sipush 1600, 3), (66, .if_icmp .ge 31, 3), (69, .iload_n 3, 1), (70, .aload_n 0, 1), (71, .getfield 29, 3), (74, .iload 4, 2), (76, .bipush 40, 2), (78, .idiv, 1), (79, .laload, 1), (80, .iload 4, 2), (82, .bipush 40, 2), (84, .irem, 1), (85, .lshr, 1), (86, .lconst 1, 1), (87, .land, 1), (88, .l2i, 1), (89, .iadd, 1), (90, .istore_n 3, 1), (91, .iinc 4 1, 3), (94, .goto (-33), 3), (97, .iload_n 3, 1), (98, .ireturn, 1)]
theorem dc_X7_align : dnL cX7_align dl_X7_align = true := by decide +kernel
theorem d_X7_align_0 : dn cX7_align 0 (.aload_n 0) 1 1 := dnAt dc_X7_align 0 rfl rfl
theorem d_X7_align_1 : dn cX7_align 1 (.iload_n 1) 1 2 := dnAt dc_X7_align 1 rfl rfl
theorem d_X7_align_2 : dn cX7_align 2 (.iconst 0) 1 3 := dnAt dc_X7_align 2 rfl rfl
theorem d_X7_align_3 : dn cX7_align 3 (.aload_n 0) 1 4 := dnAt dc_X7_align 3 rfl rfl
theorem d_X7_align_4 : dn cX7_align 4 (.iconst 0) 1 5 := dnAt dc_X7_align 4 rfl rfl
theorem d_X7_align_5 : dn cX7_align 5 (.invokevirtual 87) 3 8 := dnAt dc_X7_align 5 rfl rfl
theorem d_X7_align_8 : dn cX7_align 8 (.iconst 1) 1 9 := dnAt dc_X7_align 6 rfl rfl
theorem d_X7_align_9 : dn cX7_align 9 (.isub) 1 10 := dnAt dc_X7_align 7 rfl rfl
theorem d_X7_align_10 : dn cX7_align 10 (.invokestatic 76) 3 13 := dnAt dc_X7_align 8 rfl rfl
theorem d_X7_align_13 : dn cX7_align 13 (.ifCond .eq 22) 3 16 := dnAt dc_X7_align 9 rfl rfl
theorem d_X7_align_16 : dn cX7_align 16 (.iload_n 2) 1 17 := dnAt dc_X7_align 10 rfl rfl
theorem d_X7_align_17 : dn cX7_align 17 (.iconst 0) 1 18 := dnAt dc_X7_align 11 rfl rfl
theorem d_X7_align_18 : dn cX7_align 18 (.aload_n 0) 1 19 := dnAt dc_X7_align 12 rfl rfl
theorem d_X7_align_19 : dn cX7_align 19 (.iconst 1) 1 20 := dnAt dc_X7_align 13 rfl rfl
theorem d_X7_align_20 : dn cX7_align 20 (.invokevirtual 87) 3 23 := dnAt dc_X7_align 14 rfl rfl
theorem d_X7_align_23 : dn cX7_align 23 (.iconst 1) 1 24 := dnAt dc_X7_align 15 rfl rfl
theorem d_X7_align_24 : dn cX7_align 24 (.isub) 1 25 := dnAt dc_X7_align 16 rfl rfl
theorem d_X7_align_25 : dn cX7_align 25 (.invokestatic 76) 3 28 := dnAt dc_X7_align 17 rfl rfl
theorem d_X7_align_28 : dn cX7_align 28 (.ifCond .eq 7) 3 31 := dnAt dc_X7_align 18 rfl rfl
theorem d_X7_align_31 : dn cX7_align 31 (.iconst 0) 1 32 := dnAt dc_X7_align 19 rfl rfl
theorem d_X7_align_32 : dn cX7_align 32 (.goto 4) 3 35 := dnAt dc_X7_align 20 rfl rfl
theorem d_X7_align_35 : dn cX7_align 35 (.iconst 1) 1 36 := dnAt dc_X7_align 21 rfl rfl
theorem d_X7_align_36 : dn cX7_align 36 (.invokevirtual 84) 3 39 := dnAt dc_X7_align 22 rfl rfl
theorem d_X7_align_39 : dn cX7_align 39 (.ifCond .ne 5) 3 42 := dnAt dc_X7_align 23 rfl rfl
theorem d_X7_align_42 : dn cX7_align 42 (.iconst 0) 1 43 := dnAt dc_X7_align 24 rfl rfl
theorem d_X7_align_43 : dn cX7_align 43 (.ireturn) 1 44 := dnAt dc_X7_align 25 rfl rfl
theorem d_X7_align_44 : dn cX7_align 44 (.aload_n 0) 1 45 := dnAt dc_X7_align 26 rfl rfl
theorem d_X7_align_45 : dn cX7_align 45 (.getfield 29) 3 48 := dnAt dc_X7_align 27 rfl rfl
theorem d_X7_align_48 : dn cX7_align 48 (.iload_n 1) 1 49 := dnAt dc_X7_align 28 rfl rfl
theorem d_X7_align_49 : dn cX7_align 49 (.dup2) 1 50 := dnAt dc_X7_align 29 rfl rfl
theorem d_X7_align_50 : dn cX7_align 50 (.laload) 1 51 := dnAt dc_X7_align 30 rfl rfl
theorem d_X7_align_51 : dn cX7_align 51 (.lconst 1) 1 52 := dnAt dc_X7_align 31 rfl rfl
theorem d_X7_align_52 : dn cX7_align 52 (.iload_n 2) 1 53 := dnAt dc_X7_align 32 rfl rfl
theorem d_X7_align_53 : dn cX7_align 53 (.lshl) 1 54 := dnAt dc_X7_align 33 rfl rfl
theorem d_X7_align_54 : dn cX7_align 54 (.lor) 1 55 := dnAt dc_X7_align 34 rfl rfl
theorem d_X7_align_55 : dn cX7_align 55 (.lastore) 1 56 := dnAt dc_X7_align 35 rfl rfl
theorem d_X7_align_56 : dn cX7_align 56 (.iconst 0) 1 57 := dnAt dc_X7_align 36 rfl rfl
theorem d_X7_align_57 : dn cX7_align 57 (.istore_n 3) 1 58 := dnAt dc_X7_align 37 rfl rfl
theorem d_X7_align_58 : dn cX7_align 58 (.iconst 0) 1 59 := dnAt dc_X7_align 38 rfl rfl
theorem d_X7_align_59 : dn cX7_align 59 (.istore 4) 2 61 := dnAt dc_X7_align 39 rfl rfl
theorem d_X7_align_61 : dn cX7_align 61 (.iload 4) 2 63 := dnAt dc_X7_align 40 rfl rfl
theorem d_X7_align_63 : dn cX7_align 63 (.sipush 1600) 3 66 := dnAt dc_X7_align 41 rfl rfl
theorem d_X7_align_66 : dn cX7_align 66 (.if_icmp .ge 31) 3 69 := dnAt dc_X7_align 42 rfl rfl
theorem d_X7_align_69 : dn cX7_align 69 (.iload_n 3) 1 70 := dnAt dc_X7_align 43 rfl rfl
theorem d_X7_align_70 : dn cX7_align 70 (.aload_n 0) 1 71 := dnAt dc_X7_align 44 rfl rfl
theorem d_X7_align_71 : dn cX7_align 71 (.getfield 29) 3 74 := dnAt dc_X7_align 45 rfl rfl
theorem d_X7_align_74 : dn cX7_align 74 (.iload 4) 2 76 := dnAt dc_X7_align 46 rfl rfl
theorem d_X7_align_76 : dn cX7_align 76 (.bipush 40) 2 78 := dnAt dc_X7_align 47 rfl rfl
theorem d_X7_align_78 : dn cX7_align 78 (.idiv) 1 79 := dnAt dc_X7_align 48 rfl rfl
theorem d_X7_align_79 : dn cX7_align 79 (.laload) 1 80 := dnAt dc_X7_align 49 rfl rfl
theorem d_X7_align_80 : dn cX7_align 80 (.iload 4) 2 82 := dnAt dc_X7_align 50 rfl rfl
theorem d_X7_align_82 : dn cX7_align 82 (.bipush 40) 2 84 := dnAt dc_X7_align 51 rfl rfl
theorem d_X7_align_84 : dn cX7_align 84 (.irem) 1 85 := dnAt dc_X7_align 52 rfl rfl
theorem d_X7_align_85 : dn cX7_align 85 (.lshr) 1 86 := dnAt dc_X7_align 53 rfl rfl
theorem d_X7_align_86 : dn cX7_align 86 (.lconst 1) 1 87 := dnAt dc_X7_align 54 rfl rfl
theorem d_X7_align_87 : dn cX7_align 87 (.land) 1 88 := dnAt dc_X7_align 55 rfl rfl
theorem d_X7_align_88 : dn cX7_align 88 (.l2i) 1 89 := dnAt dc_X7_align 56 rfl rfl
theorem d_X7_align_89 : dn cX7_align 89 (.iadd) 1 90 := dnAt dc_X7_align 57 rfl rfl
theorem d_X7_align_90 : dn cX7_align 90 (.istore_n 3) 1 91 := dnAt dc_X7_align 58 rfl rfl
theorem d_X7_align_91 : dn cX7_align 91 (.iinc 4 1) 3 94 := dnAt dc_X7_align 59 rfl rfl
theorem d_X7_align_94 : dn cX7_align 94 (.goto (-33)) 3 97 := dnAt dc_X7_align 60 rfl rfl
theorem d_X7_align_97 : dn cX7_align 97 (.iload_n 3) 1 98 := dnAt dc_X7_align 61 rfl rfl
theorem d_X7_align_98 : dn cX7_align 98 (.ireturn) 1 99 := dnAt dc_X7_align 62 rfl rfl
set_option maxHeartbeats 4000000 in
set_option maxRecDepth 100000 in
theorem m_align (S : mS) (a b : Int32) (I : mInv S) : mC yX7_align cX7_align 5 (Option.some Jvm.ClassFile.FieldType.int) { frames := 1, cells := 0, slots := 0, locals := 22 } [.int a, .int b] S (fun v9 T9 => v9 = (some (.int (nI (rAlign S a b)))) ∧ T9 = tAlign S a b) := by
  refine mC.of (by decide) (Nat.le_of_ble_eq_true rfl) ?_
  intro G x q h0 C A TY
  show VM G x q h0 S 0 [(0, .ref (q 0)), (1, .int a), (2, .int b)] []
  refine m_aload_n C d_X7_align_0 0 rfl ?_
  have join_36 : VM G x q h0 S 36 [(0, .ref (q 0)), (1, .int a), (2, .int b)] [.int (nI (cAlign S a b)), .ref (q 0)] := by
    refine m_callV C d_X7_align_36 ok_RX7_84 (m_holds S (cAlign S a b) (by unfold cAlign; split <;> omega)) rfl (rest := []) rfl rfl (Nat.le_of_ble_eq_true rfl) ⟨⟨by decide, by decide⟩, by decide, by decide⟩ (fun v9 T9 e9 => ?_)
    obtain ⟨rfl, e9⟩ := e9
    refine m_eq e9 ?_
    show VM G x q h0 (uK S 0 (cAlign S a b)) 39 [(0, .ref (q 0)), (1, .int a), (2, .int b)] [.int (bI (decide (cAlign S a b = 0)))]
    refine mb_if_ne C d_X7_align_39 (tgt := 44) rfl (fun c_39 => ?_) (fun c_39 => ?_)
    · skip
      have c0 := of_decide_eq_true c_39
      have c1 : (inI a (nI 0) (nI (mSents S 0) - nI 1) && inI b (nI 0) (nI (mSents S 1) - nI 1)) = true := by unfold cAlign at c0; split at c0 <;> first | assumption | omega
      rw [Bool.and_eq_true] at c1
      have i1 := mSents_le I (show 0 < 2 by decide)
      have i2 := mSents_le I (show 1 < 2 by decide)
      obtain ⟨e1, e2⟩ := inI_of (by omega) c1.1
      obtain ⟨e3, e4⟩ := inI_of (by omega) c1.2
      rw [c0]
      refine m_lve (lv' := [(0, .ref (q 0)), (1, .int (nI (tn a))), (2, .int (nI (tn b)))]) (by rw [← e1, ← e3]) ?_
      refine m_aload_n C d_X7_align_44 0 rfl ?_
      refine m_get C d_X7_align_45 fd_RX7_29 (v := .ref (q 7)) rfl ?_
      refine m_iload_n C d_X7_align_48 1 rfl ?_
      refine m_dup2 C d_X7_align_49 rfl rfl ?_
      refine m_lld C d_X7_align_50 (k := 7) (by decide) rfl (by show _ < 40; omega) (by decide) ?_
      refine m_st (st' := [.long (lN (mN S 7 (tn a))), .int (nI (tn a)), .ref (q 7)]) rfl ?_
      refine m_lconst C d_X7_align_51 (v := (lN 1)) rfl ?_
      refine m_iload_n C d_X7_align_52 2 rfl ?_
      refine mn_lshl C d_X7_align_53 (by omega) ?_
      refine mn_lor C d_X7_align_54 ?_
      refine m_lst C d_X7_align_55 (k := 7) (v := (mN S 7 (tn a)) ||| (1 * 2 ^ (tn b))) (by decide) rfl (by show _ < 40; omega) (by decide) ?_
      refine m_iconst C d_X7_align_56 (v := (nI 0)) rfl ?_
      refine m_istore_n C d_X7_align_57 (lv' := [(3, .int (nI 0)), (0, .ref (q 0)), (1, .int (nI (tn a))), (2, .int (nI (tn b)))]) (by decide) rfl ?_
      refine m_iconst C d_X7_align_58 (v := (nI 0)) rfl ?_
      refine m_istore C d_X7_align_59 (lv' := [(4, .int (nI 0)), (3, .int (nI 0)), (0, .ref (q 0)), (1, .int (nI (tn a))), (2, .int (nI (tn b)))]) (by decide) rfl ?_
      have loop_61 : ∀ (fuel : Nat) (k : Nat), (k ≤ 1600) → (1601 - k) < fuel → VM G x q h0 (tAlign S a b) 61 [(0, .ref (q 0)), (3, .int (nI (nPairs (tAlign S a b) k))), (4, .int (nI k))] [] := by
        intro fuel
        induction fuel with
        | zero => intro k hk hf9; exact absurd hf9 (Nat.not_lt_zero _)
        | succ fuel ih_61 =>
          intro k hk hf9
          refine m_iload C d_X7_align_61 2 rfl ?_
          refine m_sipush C d_X7_align_63 (v := (nI 1600)) rfl ?_
          refine mn_icmp_ge C d_X7_align_66 (tgt := 97) rfl (by omega) (by omega) (fun c_66 => ?_) (fun c_66 => ?_)
          · skip
            have e9 : k = 1600 := by omega
            subst e9
            refine m_iload_n C d_X7_align_97 1 rfl ?_
            refine m_st (st' := [.int (nI (rAlign S a b))]) (by rw [rAlign, if_pos c0]) ?_
            exact m_iret C A TY d_X7_align_98 rfl (⟨rfl, rfl⟩)
          · skip
            refine m_iload_n C d_X7_align_69 1 rfl ?_
            refine m_aload_n C d_X7_align_70 0 rfl ?_
            refine m_get C d_X7_align_71 fd_RX7_29 (v := .ref (q 7)) rfl ?_
            refine m_iload C d_X7_align_74 2 rfl ?_
            refine m_bipush C d_X7_align_76 (v := (nI 40)) rfl ?_
            refine mn_idiv C d_X7_align_78 (by omega) (by omega) (by omega) ?_
            refine m_lld C d_X7_align_79 (k := 7) (by decide) rfl (by show _ < 40; omega) (by decide) ?_
            refine m_iload C d_X7_align_80 2 rfl ?_
            refine m_bipush C d_X7_align_82 (v := (nI 40)) rfl ?_
            refine mn_irem C d_X7_align_84 (by omega) (by omega) (by omega) ?_
            refine mn_lshr C d_X7_align_85 (by have := tAlign_lt I (a := a) (b := b) (k / 40) (by omega); omega) (by omega) ?_
            refine m_lconst C d_X7_align_86 (v := (lN 1)) rfl ?_
            refine mn_land C d_X7_align_87 ?_
            refine mn_l2i C d_X7_align_88 ?_
            refine mn_iadd C d_X7_align_89 ?_
            refine m_istore_n C d_X7_align_90 (lv' := [(3, .int (nI ((nPairs (tAlign S a b) k) + (((mN (tAlign S a b) 7 (k / 40)) / 2 ^ (k % 40)) &&& 1)))), (0, .ref (q 0)), (4, .int (nI k))]) (by decide) rfl ?_
            refine mn_iinc C d_X7_align_91 (lv' := [(4, .int (nI (k + 1))), (3, .int (nI ((nPairs (tAlign S a b) k) + (((mN (tAlign S a b) 7 (k / 40)) / 2 ^ (k % 40)) &&& 1)))), (0, .ref (q 0))]) 2 rfl (nI_inc _ rfl) (by decide) rfl ?_
            refine m_goto C d_X7_align_94 (tgt := 61) rfl ?_
            refine m_lv (lv' := [(0, .ref (q 0)), (3, .int (nI ((nPairs (tAlign S a b) k) + (((mN (tAlign S a b) 7 (k / 40)) / 2 ^ (k % 40)) &&& 1)))), (4, .int (nI (k + 1)))]) [2, 1, 0] rfl ?_
            refine m_lve (lv' := [(0, .ref (q 0)), (3, .int (nI (nPairs (tAlign S a b) (k + 1)))), (4, .int (nI (k + 1)))]) (by rw [nPairs, nPairs, sumTo, and1]) ?_
            exact ih_61 (k + 1) (by omega) (by omega)
      refine m_eq (S' := tAlign S a b) (by rw [tAlign, if_pos c0, Nat.one_mul]) ?_
      refine m_lv (lv' := [(0, .ref (q 0)), (3, .int (nI 0)), (4, .int (nI 0))]) [2, 1, 0] rfl ?_
      refine m_lve (lv' := [(0, .ref (q 0)), (3, .int (nI (nPairs (tAlign S a b) 0))), (4, .int (nI 0))]) (rfl) ?_
      exact loop_61 _ 0 (by omega) (Nat.lt_succ_self _)
    · skip
      have c1 := of_decide_eq_false c_39
      have c2 : cAlign S a b = 1 := by unfold cAlign at c1 ⊢; split at c1 <;> first | omega | (rw [if_neg (by assumption)])
      rw [c2]
      refine m_iconst C d_X7_align_42 (v := (nI 0)) rfl ?_
      refine m_st (st' := [.int (nI (rAlign S a b))]) (by rw [rAlign, if_neg c1]) ?_
      exact m_iret C A TY d_X7_align_43 rfl (⟨rfl, by rw [tAlign, if_neg c1]⟩)
  refine m_iload_n C d_X7_align_1 1 rfl ?_
  refine m_iconst C d_X7_align_2 (v := (nI 0)) rfl ?_
  refine m_aload_n C d_X7_align_3 0 rfl ?_
  refine m_iconst C d_X7_align_4 (v := (nI 0)) rfl ?_
  refine m_callV C d_X7_align_5 ok_RX7_87 (m_sentences S 0 (by omega) I) rfl (rest := [.int (nI 0), .int a, .ref (q 0)]) rfl rfl (Nat.le_of_ble_eq_true rfl) ⟨⟨by decide, by decide⟩, by decide, by decide⟩ (fun v9 T9 e9 => ?_)
  obtain ⟨rfl, e9⟩ := e9
  refine m_eq e9 ?_
  show VM G x q h0 S 8 [(0, .ref (q 0)), (1, .int a), (2, .int b)] [.int (nI (mSents S 0)), .int (nI 0), .int a, .ref (q 0)]
  refine m_iconst C d_X7_align_8 (v := (nI 1)) rfl ?_
  refine m_isub C d_X7_align_9 ?_
  refine m_callS C d_X7_align_10 ok_RX7_76 (s_isIn a ((nI 0)) (((nI (mSents S 0)) - (nI 1)))) (rest := [.ref (q 0)]) rfl rfl (Nat.le_of_ble_eq_true rfl) ⟨⟨by decide, by decide⟩, by decide, by decide⟩ ?_
  show VM G x q h0 S 13 [(0, .ref (q 0)), (1, .int a), (2, .int b)] [.int (bI (inI a (nI 0) ((nI (mSents S 0)) - (nI 1)))), .ref (q 0)]
  refine mb_if_eq C d_X7_align_13 (tgt := 35) rfl (fun c_13 => ?_) (fun c_13 => ?_)
  · skip
    refine m_iconst C d_X7_align_35 (v := (nI 1)) rfl ?_
    refine m_st (st' := [.int (nI (cAlign S a b)), .ref (q 0)]) (by first | rw [cAlign, c_13, c_28]; rfl | (rw [cAlign, c_13]; rfl)) ?_
    exact join_36  
  · skip
    refine m_iload_n C d_X7_align_16 2 rfl ?_
    refine m_iconst C d_X7_align_17 (v := (nI 0)) rfl ?_
    refine m_aload_n C d_X7_align_18 0 rfl ?_
    refine m_iconst C d_X7_align_19 (v := (nI 1)) rfl ?_
    refine m_callV C d_X7_align_20 ok_RX7_87 (m_sentences S 1 (by omega) I) rfl (rest := [.int (nI 0), .int b, .ref (q 0)]) rfl rfl (Nat.le_of_ble_eq_true rfl) ⟨⟨by decide, by decide⟩, by decide, by decide⟩ (fun v9 T9 e9 => ?_)
    obtain ⟨rfl, e9⟩ := e9
    refine m_eq e9 ?_
    show VM G x q h0 S 23 [(0, .ref (q 0)), (1, .int a), (2, .int b)] [.int (nI (mSents S 1)), .int (nI 0), .int b, .ref (q 0)]
    refine m_iconst C d_X7_align_23 (v := (nI 1)) rfl ?_
    refine m_isub C d_X7_align_24 ?_
    refine m_callS C d_X7_align_25 ok_RX7_76 (s_isIn b ((nI 0)) (((nI (mSents S 1)) - (nI 1)))) (rest := [.ref (q 0)]) rfl rfl (Nat.le_of_ble_eq_true rfl) ⟨⟨by decide, by decide⟩, by decide, by decide⟩ ?_
    show VM G x q h0 S 28 [(0, .ref (q 0)), (1, .int a), (2, .int b)] [.int (bI (inI b (nI 0) ((nI (mSents S 1)) - (nI 1)))), .ref (q 0)]
    refine mb_if_eq C d_X7_align_28 (tgt := 35) rfl (fun c_28 => ?_) (fun c_28 => ?_)
    · skip
      refine m_iconst C d_X7_align_35 (v := (nI 1)) rfl ?_
      refine m_st (st' := [.int (nI (cAlign S a b)), .ref (q 0)]) (by first | rw [cAlign, c_13, c_28]; rfl | (rw [cAlign, c_13]; rfl)) ?_
      exact join_36  
    · skip
      refine m_iconst C d_X7_align_31 (v := (nI 0)) rfl ?_
      refine m_goto C d_X7_align_32 (tgt := 36) rfl ?_
      refine m_st (st' := [.int (nI (cAlign S a b)), .ref (q 0)]) (by first | rw [cAlign, c_13, c_28]; rfl | (rw [cAlign, c_13]; rfl)) ?_
      exact join_36  
