theorem tw_662 : (Jvm.Cond.fieldLink "CorpuslineModel" (7 : Nat) "CorpuslineModel" "many" "[I") ∈ TB := tb_of 662 (by decide +kernel) rfl
theorem tw_664 : (Jvm.Cond.fieldLink "CorpuslineModel" (16 : Nat) "CorpuslineModel" "sentence" "[I") ∈ TB := tb_of 664 (by decide +kernel) rfl
theorem tw_676 : (Jvm.Cond.fieldLink "CorpuslineModel" (121 : Nat) "CorpuslineModel" "patterns" "I") ∈ TB := tb_of 676 (by decide +kernel) rfl
theorem tw_681 : (Jvm.Cond.fieldLink "CorpuslineModel" (63 : Nat) "CorpuslineModel" "sides" "[I") ∈ TB := tb_of 681 (by decide +kernel) rfl
theorem fd_RX7_7 : fdOk RX7 7 6 1 := ⟨_, _, _, rfl, by decide, cw_6, tw_662, rfl⟩
theorem fd_RX7_16 : fdOk RX7 16 6 3 := ⟨_, _, _, rfl, by decide, cw_6, tw_664, rfl⟩
theorem fd_RX7_63 : fdOk RX7 63 6 20 := ⟨_, _, _, rfl, by decide, cw_6, tw_681, rfl⟩
theorem fd_RX7_121 : fdOk RX7 121 6 15 := ⟨_, _, _, rfl, by decide, cw_6, tw_676, rfl⟩
/-- what holds of the reference's rows between calls -/
def mInv (S : mS) : Prop :=
  (∀ s, s < 2 → mN S 1 s ≤ 40) ∧ (∀ i, i < 240 → mN S 2 i < 100) ∧ (∀ i, i < 80 → mN S 3 i ≤ i % 40) ∧ (∀ i, i < 80 → mN S 4 i ≤ i % 40) ∧
  (∀ i, i < 40 → mN S 7 i < 1099511627776) ∧ (∀ p, p < 21 → mN S 8 p ≤ 8) ∧ (∀ i, i < 1008 → mN S 12 i < 1125899906842624) ∧ (∀ i, i < 168 → mN S 13 i < 8) ∧ (∀ i, i < 168 → mN S 14 i < 512) ∧
  mK S 15 ≤ 12 ∧ mK S 16 ≤ 8 ∧ mTests S ≤ 8 ∧ (∀ r, r < 8 → mI S 20 r = -1 ∨ mI S 20 r = nI 0 ∨ mI S 20 r = nI 1) ∧
  (∀ i, i < 320 → mN S 21 i < 512 ∧ mN S 21 i % 2 = 0) ∧
  (∀ r s, r < 8 → s < 2 → mI S 20 r = nI s → ∀ k, k < 40 → ∀ z, z < 9 → mN S 21 (40 * r + k) / 2 ^ z % 2 = 1 → k + z ≤ mN S 1 s) ∧
  (∀ p, p < mK S 15 ∨ 12 ≤ p ∧ p < 12 + mK S 16 → 1 ≤ mN S 8 p ∧ (∀ w, w < 256 → mB S 10 (256 * p + w) = true → w < 2 ^ mN S 8 p) ∧ (mB S 9 p = true → mN S 8 p = 1 ∧ ∀ w, w < 256 → mB S 10 (256 * p + w) = decide (w = 1)))
def mSents (S : mS) (s : Nat) : Nat := if mN S 1 s = 0 then 0 else mN S 3 (40 * s + mN S 1 s - 1) + 1
def mIsR (S : mS) (v : Int32) : Bool := inR v 0 7 && !decide (mI S 20 (tn v) = -1)

def dl_X7_sentences : List (Nat × Instr × Nat) := [(0, .aload_n 0, 1), (1, .getfield 7, 3), (4, .iload_n 1, 1), (5, .iaload, 1), (6, .ifCond .ne 7, 3), (9, .iconst 0, 1), (10, .goto 23, 3), (13, .aload_n 0, 1), (14, .getfield 16, 3), (17, .bipush 40, 2), (19, .iload_n 1, 1), (20, .imul, 1), (21, .aload_n 0, 1), (22, .getfield 7, 3), (25, .iload_n 1, 1), (26, .iaload, 1), (27, .iadd, 1), (28, .iconst 1, 1), (29, .isub, 1), (30, .iaload, 1), (31, .iconst 1, 1), (32, .iadd, 1), (33, .ireturn, 1)]
theorem dc_X7_sentences : dnL cX7_sentences dl_X7_sentences = true := by decide +kernel
theorem d_X7_sentences_0 : dn cX7_sentences 0 (.aload_n 0) 1 1 := dnAt dc_X7_sentences 0 rfl rfl
theorem d_X7_sentences_1 : dn cX7_sentences 1 (.getfield 7) 3 4 := dnAt dc_X7_sentences 1 rfl rfl
theorem d_X7_sentences_4 : dn cX7_sentences 4 (.iload_n 1) 1 5 := dnAt dc_X7_sentences 2 rfl rfl
theorem d_X7_sentences_5 : dn cX7_sentences 5 (.iaload) 1 6 := dnAt dc_X7_sentences 3 rfl rfl
theorem d_X7_sentences_6 : dn cX7_sentences 6 (.ifCond .ne 7) 3 9 := dnAt dc_X7_sentences 4 rfl rfl
theorem d_X7_sentences_9 : dn cX7_sentences 9 (.iconst 0) 1 10 := dnAt dc_X7_sentences 5 rfl rfl
theorem d_X7_sentences_10 : dn cX7_sentences 10 (.goto 23) 3 13 := dnAt dc_X7_sentences 6 rfl rfl
theorem d_X7_sentences_13 : dn cX7_sentences 13 (.aload_n 0) 1 14 := dnAt dc_X7_sentences 7 rfl rfl
theorem d_X7_sentences_14 : dn cX7_sentences 14 (.getfield 16) 3 17 := dnAt dc_X7_sentences 8 rfl rfl
theorem d_X7_sentences_17 : dn cX7_sentences 17 (.bipush 40) 2 19 := dnAt dc_X7_sentences 9 rfl rfl
theorem d_X7_sentences_19 : dn cX7_sentences 19 (.iload_n 1) 1 20 := dnAt dc_X7_sentences 10 rfl rfl
theorem d_X7_sentences_20 : dn cX7_sentences 20 (.imul) 1 21 := dnAt dc_X7_sentences 11 rfl rfl
theorem d_X7_sentences_21 : dn cX7_sentences 21 (.aload_n 0) 1 22 := dnAt dc_X7_sentences 12 rfl rfl
theorem d_X7_sentences_22 : dn cX7_sentences 22 (.getfield 7) 3 25 := dnAt dc_X7_sentences 13 rfl rfl
theorem d_X7_sentences_25 : dn cX7_sentences 25 (.iload_n 1) 1 26 := dnAt dc_X7_sentences 14 rfl rfl
theorem d_X7_sentences_26 : dn cX7_sentences 26 (.iaload) 1 27 := dnAt dc_X7_sentences 15 rfl rfl
theorem d_X7_sentences_27 : dn cX7_sentences 27 (.iadd) 1 28 := dnAt dc_X7_sentences 16 rfl rfl
theorem d_X7_sentences_28 : dn cX7_sentences 28 (.iconst 1) 1 29 := dnAt dc_X7_sentences 17 rfl rfl
theorem d_X7_sentences_29 : dn cX7_sentences 29 (.isub) 1 30 := dnAt dc_X7_sentences 18 rfl rfl
theorem d_X7_sentences_30 : dn cX7_sentences 30 (.iaload) 1 31 := dnAt dc_X7_sentences 19 rfl rfl
theorem d_X7_sentences_31 : dn cX7_sentences 31 (.iconst 1) 1 32 := dnAt dc_X7_sentences 20 rfl rfl
theorem d_X7_sentences_32 : dn cX7_sentences 32 (.iadd) 1 33 := dnAt dc_X7_sentences 21 rfl rfl
theorem d_X7_sentences_33 : dn cX7_sentences 33 (.ireturn) 1 34 := dnAt dc_X7_sentences 22 rfl rfl
set_option maxHeartbeats 4000000 in
set_option maxRecDepth 100000 in
theorem m_sentences (S : mS) (s : Nat) (hs : s < 2) (I : mInv S) : mC yX7_sentences cX7_sentences 2 (Option.some Jvm.ClassFile.FieldType.int) { frames := 0, cells := 0, slots := 0, locals := 0 } [.int (nI s)] S (fun v9 T9 => v9 = (some (.int (nI (mSents S s)))) ∧ T9 = S) := by
  refine mC.of (by decide) (Nat.le_of_ble_eq_true rfl) ?_
  intro G x q h0 C A TY
  show VM G x q h0 S 0 [(0, .ref (q 0)), (1, .int (nI s))] []
  have i1 := I.1 s hs
  have join_33 : VM G x q h0 S 33 [(0, .ref (q 0)), (1, .int (nI s))] [.int (nI (mSents S s))] := by
    exact m_iret C A TY d_X7_sentences_33 rfl (⟨rfl, rfl⟩)
  refine m_aload_n C d_X7_sentences_0 0 rfl ?_
  refine m_get C d_X7_sentences_1 fd_RX7_7 (v := .ref (q 1)) rfl ?_
  refine m_iload_n C d_X7_sentences_4 1 rfl ?_
  refine m_ald C d_X7_sentences_5 (k := 1) (by decide) rfl (by show _ < 2; omega) (by decide) ?_
  refine mn_if_ne C d_X7_sentences_6 (tgt := 13) rfl (by omega) (fun c_6 => ?_) (fun c_6 => ?_)
  · skip
    refine m_aload_n C d_X7_sentences_13 0 rfl ?_
    refine m_get C d_X7_sentences_14 fd_RX7_16 (v := .ref (q 3)) rfl ?_
    refine m_bipush C d_X7_sentences_17 (v := (nI 40)) rfl ?_
    refine m_iload_n C d_X7_sentences_19 1 rfl ?_
    refine mn_imul C d_X7_sentences_20 ?_
    refine m_aload_n C d_X7_sentences_21 0 rfl ?_
    refine m_get C d_X7_sentences_22 fd_RX7_7 (v := .ref (q 1)) rfl ?_
    refine m_iload_n C d_X7_sentences_25 1 rfl ?_
    refine m_ald C d_X7_sentences_26 (k := 1) (by decide) rfl (by show _ < 2; omega) (by decide) ?_
    refine mn_iadd C d_X7_sentences_27 ?_
    refine m_iconst C d_X7_sentences_28 (v := (nI 1)) rfl ?_
    refine mn_isub C d_X7_sentences_29 (by omega) ?_
    refine m_ald C d_X7_sentences_30 (k := 3) (by decide) rfl (by show _ < 80; omega) (by decide) ?_
    refine m_iconst C d_X7_sentences_31 (v := (nI 1)) rfl ?_
    refine mn_iadd C d_X7_sentences_32 ?_
    refine m_st (st' := [.int (nI (mSents S s))]) (by first | rw [mSents, if_pos c_6] | rw [mSents, if_neg (by omega)]) ?_
    exact join_33  
  · skip
    refine m_iconst C d_X7_sentences_9 (v := (nI 0)) rfl ?_
    refine m_goto C d_X7_sentences_10 (tgt := 33) rfl ?_
    refine m_st (st' := [.int (nI (mSents S s))]) (by first | rw [mSents, if_pos c_6] | rw [mSents, if_neg (by omega)]) ?_
    exact join_33  
def dl_X7_isPattern : List (Nat × Instr × Nat) := [(0, .iload_n 1, 1), (1, .iconst 0, 1), (2, .aload_n 0, 1), (3, .getfield 121, 3), (6, .iconst 1, 1), (7, .isub, 1), (8, .invokestatic 76, 3), (11, .ireturn, 1)]
theorem dc_X7_isPattern : dnL cX7_isPattern dl_X7_isPattern = true := by decide +kernel
theorem d_X7_isPattern_0 : dn cX7_isPattern 0 (.iload_n 1) 1 1 := dnAt dc_X7_isPattern 0 rfl rfl
theorem d_X7_isPattern_1 : dn cX7_isPattern 1 (.iconst 0) 1 2 := dnAt dc_X7_isPattern 1 rfl rfl
theorem d_X7_isPattern_2 : dn cX7_isPattern 2 (.aload_n 0) 1 3 := dnAt dc_X7_isPattern 2 rfl rfl
theorem d_X7_isPattern_3 : dn cX7_isPattern 3 (.getfield 121) 3 6 := dnAt dc_X7_isPattern 3 rfl rfl
theorem d_X7_isPattern_6 : dn cX7_isPattern 6 (.iconst 1) 1 7 := dnAt dc_X7_isPattern 4 rfl rfl
theorem d_X7_isPattern_7 : dn cX7_isPattern 7 (.isub) 1 8 := dnAt dc_X7_isPattern 5 rfl rfl
theorem d_X7_isPattern_8 : dn cX7_isPattern 8 (.invokestatic 76) 3 11 := dnAt dc_X7_isPattern 6 rfl rfl
theorem d_X7_isPattern_11 : dn cX7_isPattern 11 (.ireturn) 1 12 := dnAt dc_X7_isPattern 7 rfl rfl
set_option maxHeartbeats 4000000 in
set_option maxRecDepth 100000 in
theorem m_isPattern (S : mS) (v : Int32) : mC yX7_isPattern cX7_isPattern 2 (Option.some Jvm.ClassFile.FieldType.boolean) { frames := 1, cells := 0, slots := 0, locals := 22 } [.int v] S (fun v9 T9 => v9 = (some (.int (bI (inI v (nI 0) (nI (mK S 15) - nI 1))))) ∧ T9 = S) := by
  refine mC.of (by decide) (Nat.le_of_ble_eq_true rfl) ?_
  intro G x q h0 C A TY
  show VM G x q h0 S 0 [(0, .ref (q 0)), (1, .int v)] []
  refine m_iload_n C d_X7_isPattern_0 1 rfl ?_
  refine m_iconst C d_X7_isPattern_1 (v := (nI 0)) rfl ?_
  refine m_aload_n C d_X7_isPattern_2 0 rfl ?_
  refine m_get C d_X7_isPattern_3 fd_RX7_121 (v := .int (nI (mK S 15))) rfl ?_
  refine m_iconst C d_X7_isPattern_6 (v := (nI 1)) rfl ?_
  refine m_isub C d_X7_isPattern_7 ?_
  refine m_callS C d_X7_isPattern_8 ok_RX7_76 (s_isIn v ((nI 0)) (((nI (mK S 15)) - (nI 1)))) (rest := []) rfl rfl (Nat.le_of_ble_eq_true rfl) ⟨⟨by decide, by decide⟩, by decide, by decide⟩ ?_
  show VM G x q h0 S 11 [(0, .ref (q 0)), (1, .int v)] [.int (bI (inI v (nI 0) ((nI (mK S 15)) - (nI 1))))]
  refine m_st (st' := [.int (bI (inI v (nI 0) (nI (mK S 15) - nI 1)))]) (rfl) ?_
  exact m_iret C A TY d_X7_isPattern_11 (bI_nar _) (⟨rfl, rfl⟩)
def dl_X7_isResult : List (Nat × Instr × Nat) := [(0, .iload_n 1, 1), (1, .iconst 0, 1), (2, .bipush 7, 2), (4, .invokestatic 76, 3), (7, .ifCond .eq 17, 3), (10, .aload_n 0, 1), (11, .getfield 63, 3), (14, .iload_n 1, 1), (15, .iaload, 1), (16, .iconst (-1), 1), (17, .if_icmp .eq 7, 3), (20, .iconst 1, 1), (21, .goto 4, 3), (24, .iconst 0, 1), (25, .ireturn, 1)]
theorem dc_X7_isResult : dnL cX7_isResult dl_X7_isResult = true := by decide +kernel
theorem d_X7_isResult_0 : dn cX7_isResult 0 (.iload_n 1) 1 1 := dnAt dc_X7_isResult 0 rfl rfl
theorem d_X7_isResult_1 : dn cX7_isResult 1 (.iconst 0) 1 2 := dnAt dc_X7_isResult 1 rfl rfl
theorem d_X7_isResult_2 : dn cX7_isResult 2 (.bipush 7) 2 4 := dnAt dc_X7_isResult 2 rfl rfl
theorem d_X7_isResult_4 : dn cX7_isResult 4 (.invokestatic 76) 3 7 := dnAt dc_X7_isResult 3 rfl rfl
theorem d_X7_isResult_7 : dn cX7_isResult 7 (.ifCond .eq 17) 3 10 := dnAt dc_X7_isResult 4 rfl rfl
theorem d_X7_isResult_10 : dn cX7_isResult 10 (.aload_n 0) 1 11 := dnAt dc_X7_isResult 5 rfl rfl
theorem d_X7_isResult_11 : dn cX7_isResult 11 (.getfield 63) 3 14 := dnAt dc_X7_isResult 6 rfl rfl
theorem d_X7_isResult_14 : dn cX7_isResult 14 (.iload_n 1) 1 15 := dnAt dc_X7_isResult 7 rfl rfl
theorem d_X7_isResult_15 : dn cX7_isResult 15 (.iaload) 1 16 := dnAt dc_X7_isResult 8 rfl rfl
theorem d_X7_isResult_16 : dn cX7_isResult 16 (.iconst (-1)) 1 17 := dnAt dc_X7_isResult 9 rfl rfl
theorem d_X7_isResult_17 : dn cX7_isResult 17 (.if_icmp .eq 7) 3 20 := dnAt dc_X7_isResult 10 rfl rfl
theorem d_X7_isResult_20 : dn cX7_isResult 20 (.iconst 1) 1 21 := dnAt dc_X7_isResult 11 rfl rfl
theorem d_X7_isResult_21 : dn cX7_isResult 21 (.goto 4) 3 24 := dnAt dc_X7_isResult 12 rfl rfl
theorem d_X7_isResult_24 : dn cX7_isResult 24 (.iconst 0) 1 25 := dnAt dc_X7_isResult 13 rfl rfl
theorem d_X7_isResult_25 : dn cX7_isResult 25 (.ireturn) 1 26 := dnAt dc_X7_isResult 14 rfl rfl
set_option maxHeartbeats 4000000 in
set_option maxRecDepth 100000 in
theorem m_isResult (S : mS) (v : Int32) : mC yX7_isResult cX7_isResult 2 (Option.some Jvm.ClassFile.FieldType.boolean) { frames := 1, cells := 0, slots := 0, locals := 22 } [.int v] S (fun v9 T9 => v9 = (some (.int (bI (mIsR S v)))) ∧ T9 = S) := by
  refine mC.of (by decide) (Nat.le_of_ble_eq_true rfl) ?_
  intro G x q h0 C A TY
  show VM G x q h0 S 0 [(0, .ref (q 0)), (1, .int v)] []
  refine m_iload_n C d_X7_isResult_0 1 rfl ?_
  refine m_iconst C d_X7_isResult_1 (v := (nI 0)) rfl ?_
  refine m_bipush C d_X7_isResult_2 (v := (nI 7)) rfl ?_
  refine m_callS C d_X7_isResult_4 ok_RX7_76 (s_isIn v ((nI 0)) ((nI 7))) (rest := []) rfl rfl (Nat.le_of_ble_eq_true rfl) ⟨⟨by decide, by decide⟩, by decide, by decide⟩ ?_
  show VM G x q h0 S 7 [(0, .ref (q 0)), (1, .int v)] [.int (bI (inR v 0 7))]
  refine mb_if_eq C d_X7_isResult_7 (tgt := 24) rfl (fun c_7 => ?_) (fun c_7 => ?_)
  · skip
    refine m_iconst C d_X7_isResult_24 (v := (bI false)) rfl ?_
    refine m_st (st' := [.int (bI (mIsR S v))]) (congrArg (fun z => [Value.int (bI z)]) (by first | (rw [mIsR, c_7]; rfl) | (rw [mIsR, c_7, c_17]; rfl) | (rw [mIsR, c_7, decide_eq_false c_17]; rfl))) ?_
    exact m_iret C A TY d_X7_isResult_25 (bI_nar _) (⟨rfl, rfl⟩)
  · skip
    obtain ⟨e1, -, e2⟩ := inR_of c_7 (by decide) (by decide)
    refine m_lve (lv' := [(0, .ref (q 0)), (1, .int (nI (tn v)))]) (by rw [← e1]) ?_
    refine m_aload_n C d_X7_isResult_10 0 rfl ?_
    refine m_get C d_X7_isResult_11 fd_RX7_63 (v := .ref (q 20)) rfl ?_
    refine m_iload_n C d_X7_isResult_14 1 rfl ?_
    refine m_aldI C d_X7_isResult_15 (k := 20) (by decide) rfl (by show _ < 8; omega) (by decide) ?_
    refine m_iconst C d_X7_isResult_16 (v := ((-1))) rfl ?_
    refine m_icmp_eq C d_X7_isResult_17 (tgt := 24) rfl (fun c_17 => ?_) (fun c_17 => ?_)
    · skip
      refine m_iconst C d_X7_isResult_24 (v := (bI false)) rfl ?_
      refine m_st (st' := [.int (bI (mIsR S v))]) (congrArg (fun z => [Value.int (bI z)]) (by first | (rw [mIsR, c_7]; rfl) | (rw [mIsR, c_7, c_17]; rfl) | (rw [mIsR, c_7, decide_eq_false c_17]; rfl))) ?_
      exact m_iret C A TY d_X7_isResult_25 (bI_nar _) (⟨rfl, rfl⟩)
    · skip
      refine m_iconst C d_X7_isResult_20 (v := (bI true)) rfl ?_
      refine m_goto C d_X7_isResult_21 (tgt := 25) rfl ?_
      refine m_st (st' := [.int (bI (mIsR S v))]) (congrArg (fun z => [Value.int (bI z)]) (by first | (rw [mIsR, c_7]; rfl) | (rw [mIsR, c_7, c_17]; rfl) | (rw [mIsR, c_7, decide_eq_false c_17]; rfl))) ?_
      exact m_iret C A TY d_X7_isResult_25 (bI_nar _) (⟨rfl, rfl⟩)
