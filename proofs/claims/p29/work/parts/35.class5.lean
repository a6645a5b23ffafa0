theorem tw_4 : (Jvm.Cond.initialized "Corpusline$Result") ∈ TB := tb_of 4 (by decide +kernel) rfl
theorem tw_85 : (Jvm.Cond.fieldLink "Corpusline" (209 : Nat) "Corpusline$Result" "isThere" "Z") ∈ TB := tb_of 85 (by decide +kernel) rfl
theorem tw_88 : (Jvm.Cond.fieldLink "Corpusline$Result" (19 : Nat) "Corpusline$Result" "lengths" "[I") ∈ TB := tb_of 88 (by decide +kernel) rfl
theorem tw_103 : (Jvm.Cond.fieldLink "Corpusline" (36 : Nat) "Corpusline" "results" "[LCorpusline$Result;") ∈ TB := tb_of 103 (by decide +kernel) rfl
theorem tw_205 : (Jvm.Cond.methodLink "Corpusline" (212 : Nat) ({ cls := "Corpusline", name := "isResult", desc := "(I)Z" } : Jvm.MethodName)) ∈ TB := tb_of 205 (by decide +kernel) rfl
theorem tw_207 : (Jvm.Cond.instanceMethod ({ cls := "Corpusline", name := "isResult", desc := "(I)Z" } : Jvm.MethodName)) ∈ TB := tb_of 207 (by decide +kernel) rfl
theorem tw_208 : (Jvm.Cond.code ({ cls := "Corpusline", name := "isResult", desc := "(I)Z" } : Jvm.MethodName) prog_1_method_31_code (2 : Nat) (Option.some Jvm.ClassFile.FieldType.boolean)) ∈ TB := tb_of 208 (by decide +kernel) rfl
theorem tw_209 : (Jvm.Cond.methodLink "Corpusline" (181 : Nat) ({ cls := "Corpusline$Result", name := "matchCount", desc := "()I" } : Jvm.MethodName)) ∈ TB := tb_of 209 (by decide +kernel) rfl
theorem tw_210 : (Jvm.Cond.instanceMethod ({ cls := "Corpusline$Result", name := "matchCount", desc := "()I" } : Jvm.MethodName)) ∈ TB := tb_of 210 (by decide +kernel) rfl
theorem tw_211 : (Jvm.Cond.selects "Corpusline$Result" ({ cls := "Corpusline$Result", name := "matchCount", desc := "()I" } : Jvm.MethodName) ({ cls := "Corpusline$Result", name := "matchCount", desc := "()I" } : Jvm.MethodName)) ∈ TB := tb_of 211 (by decide +kernel) rfl
theorem tw_212 : (Jvm.Cond.code ({ cls := "Corpusline$Result", name := "matchCount", desc := "()I" } : Jvm.MethodName) prog_3_method_3_code (3 : Nat) (Option.some Jvm.ClassFile.FieldType.int)) ∈ TB := tb_of 212 (by decide +kernel) rfl
theorem tw_213 : (Jvm.Cond.methodLink "Corpusline$Result" (23 : Nat) ({ cls := "java/lang/Integer", name := "bitCount", desc := "(I)I" } : Jvm.MethodName)) ∈ TB := tb_of 213 (by decide +kernel) rfl
theorem tw_214 : (Jvm.Cond.static ({ cls := "java/lang/Integer", name := "bitCount", desc := "(I)I" } : Jvm.MethodName)) ∈ TB := tb_of 214 (by decide +kernel) rfl
theorem tw_215 : (Jvm.Cond.code ({ cls := "java/lang/Integer", name := "bitCount", desc := "(I)I" } : Jvm.MethodName) prog_14_method_49_code (1 : Nat) (Option.some Jvm.ClassFile.FieldType.int)) ∈ TB := tb_of 215 (by decide +kernel) rfl
theorem tw_545 : (Jvm.Cond.methodLink "Corpusline" (184 : Nat) ({ cls := "Corpusline", name := "knownResult", desc := "(I)LCorpusline$Result;" } : Jvm.MethodName)) ∈ TB := tb_of 545 (by decide +kernel) rfl
theorem tw_547 : (Jvm.Cond.instanceMethod ({ cls := "Corpusline", name := "knownResult", desc := "(I)LCorpusline$Result;" } : Jvm.MethodName)) ∈ TB := tb_of 547 (by decide +kernel) rfl
theorem tw_548 : (Jvm.Cond.code ({ cls := "Corpusline", name := "knownResult", desc := "(I)LCorpusline$Result;" } : Jvm.MethodName) prog_1_method_32_code (2 : Nat) (Option.some (Jvm.ClassFile.FieldType.object "Corpusline$Result"))) ∈ TB := tb_of 548 (by decide +kernel) rfl
theorem ts_2 : Cond.selects "Corpusline" ({ cls := "Corpusline", name := "isResult", desc := "(I)Z" } : MethodName) ({ cls := "Corpusline", name := "isResult", desc := "(I)Z" } : MethodName) ∈ TB := tb_sel 2 (by decide +kernel) rfl
theorem ts_14 : Cond.selects "Corpusline" ({ cls := "Corpusline", name := "knownResult", desc := "(I)LCorpusline$Result;" } : MethodName) ({ cls := "Corpusline", name := "knownResult", desc := "(I)LCorpusline$Result;" } : MethodName) ∈ TB := tb_sel 14 (by decide +kernel) rfl
theorem fd_RX1_19 : fdOk RX1 19 1 2 := ⟨_, _, _, rfl, by decide, cw_1, tw_88, rfl⟩
theorem fd_RX6_36 : fdOk RX6 36 5 6 := ⟨_, _, _, rfl, by decide, cw_5, tw_103, rfl⟩
theorem fd_RX6_209 : fdOk RX6 209 1 0 := ⟨_, _, _, rfl, by decide, cw_1, tw_85, rfl⟩
theorem pf_RX6_209 : pfOk RX6 209 1 0 .boolean false := ⟨_, _, _, tyX1, rfl, by decide, cw_1, tw_85, rfl, tyX1_ok, nmX1, rfl, by decide +kernel⟩
theorem ok_RX1_23 : okS RX1 23 yJ6_bitCount_0f7a4 cJ6_bitCount_0f7a4 1 (Option.some Jvm.ClassFile.FieldType.int) 1 := ⟨tw_213, tw_214, tw_5, tw_215, ⟨by decide, by decide, by decide +kernel⟩⟩
theorem ok_RX6_181 : okV RX6 181 yX1_matchCount cX1_matchCount 3 (Option.some Jvm.ClassFile.FieldType.int) 0 := ⟨tw_209, tw_210, tw_211, tw_4, tw_212, ⟨by decide, by decide, by decide +kernel⟩⟩
theorem ok_RX6_184 : okV RX6 184 yX6_knownResult cX6_knownResult 2 (Option.some (Jvm.ClassFile.FieldType.object "Corpusline$Result")) 1 := ⟨tw_545, tw_547, ts_14, tw_1, tw_548, ⟨by decide, by decide, by decide +kernel⟩⟩
theorem ok_RX6_212 : okV RX6 212 yX6_isResult cX6_isResult 2 (Option.some Jvm.ClassFile.FieldType.boolean) 1 := ⟨tw_205, tw_207, ts_2, tw_1, tw_208, ⟨by decide, by decide, by decide +kernel⟩⟩
/-- what holds of the class's results beside the reference's -/
def rInv (g : mS) : Prop := ∀ r, r < 8 → mB g 32 r = !decide (mI g 20 r = -1) ∧ (mI g 20 r ≠ -1 → mI g 20 r = nI (mN g 54 r) ∧ mN g 54 r < 2)
theorem mIsR_T {g : mS} (J : rInv g) {v : Int32} (h1 : inR v 0 7 = true) (h2 : mB g 32 (tn v) = true) : mIsR g v = true := by
  obtain ⟨e1, -, e2⟩ := inR_of h1 (by decide) (by decide)
  rw [(J (tn v) (by omega)).1] at h2
  rw [mIsR, h1, h2]; rfl
theorem mIsR_F {g : mS} (J : rInv g) {v : Int32} (h : inR v 0 7 = false ∨ (inR v 0 7 = true ∧ mB g 32 (tn v) = false)) : mIsR g v = false := by
  rcases h with h | ⟨h, h2⟩
  · rw [mIsR, h]; rfl
  · obtain ⟨e1, -, e2⟩ := inR_of h (by decide) (by decide)
    rw [(J (tn v) (by omega)).1] at h2
    rw [mIsR, h, h2]; rfl
theorem sz_b {g : mS} (I : mInv g) {r : Nat} (hr : r < 8) : ∀ k, k < 40 → mN g 21 (40 * r + k) < 512 ∧ mN g 21 (40 * r + k) % 2 = 0 := fun k hk => I.2.2.2.2.2.2.2.2.2.2.2.2.2.1 (40 * r + k) (by omega)
def dl_X1_matchCount : List (Nat × Instr × Nat) := [(0, .iconst 0, 1), (1, .istore_n 1, 1), (2, .iconst 0, 1), (3, .istore_n 2, 1), (4, .iload_n 2, 1), (5, .bipush 40, 2), (7, .if_icmp .ge 21, 3), (10, .iload_n 1, 1), (11, .aload_n 0, 1), (12, .getfield 19, 3), (15, .iload_n 2, 1), (16, .iaload, 1), (17, .invokestatic 23, 3), (20, .iadd, 1), (21, .istore_n 1, 1), (22, .iinc 2 1, 3), (25, .goto (-21), 3), (28, .iload_n 1, 1), (29, .ireturn, 1)]
theorem dc_X1_matchCount : dnL cX1_matchCount dl_X1_matchCount = true := by decide +kernel
theorem d_X1_matchCount_0 : dn cX1_matchCount 0 (.iconst 0) 1 1 := dnAt dc_X1_matchCount 0 rfl rfl
theorem d_X1_matchCount_1 : dn cX1_matchCount 1 (.istore_n 1) 1 2 := dnAt dc_X1_matchCount 1 rfl rfl
theorem d_X1_matchCount_2 : dn cX1_matchCount 2 (.iconst 0) 1 3 := dnAt dc_X1_matchCount 2 rfl rfl
theorem d_X1_matchCount_3 : dn cX1_matchCount 3 (.istore_n 2) 1 4 := dnAt dc_X1_matchCount 3 rfl rfl
theorem d_X1_matchCount_4 : dn cX1_matchCount 4 (.iload_n 2) 1 5 := dnAt dc_X1_matchCount 4 rfl rfl
theorem d_X1_matchCount_5 : dn cX1_matchCount 5 (.bipush 40) 2 7 := dnAt dc_X1_matchCount 5 rfl rfl
theorem d_X1_matchCount_7 : dn cX1_matchCount 7 (.if_icmp .ge 21) 3 10 := dnAt dc_X1_matchCount 6 rfl rfl
theorem d_X1_matchCount_10 : dn cX1_matchCount 10 (.iload_n 1) 1 11 := dnAt dc_X1_matchCount 7 rfl rfl
theorem d_X1_matchCount_11 : dn cX1_matchCount 11 (.aload_n 0) 1 12 := dnAt dc_X1_matchCount 8 rfl rfl
theorem d_X1_matchCount_12 : dn cX1_matchCount 12 (.getfield 19) 3 15 := dnAt dc_X1_matchCount 9 rfl rfl
theorem d_X1_matchCount_15 : dn cX1_matchCount 15 (.iload_n 2) 1 16 := dnAt dc_X1_matchCount 10 rfl rfl
theorem d_X1_matchCount_16 : dn cX1_matchCount 16 (.iaload) 1 17 := dnAt dc_X1_matchCount 11 rfl rfl
theorem d_X1_matchCount_17 : dn cX1_matchCount 17 (.invokestatic 23) 3 20 := dnAt dc_X1_matchCount 12 rfl rfl
theorem d_X1_matchCount_20 : dn cX1_matchCount 20 (.iadd) 1 21 := dnAt dc_X1_matchCount 13 rfl rfl
theorem d_X1_matchCount_21 : dn cX1_matchCount 21 (.istore_n 1) 1 22 := dnAt dc_X1_matchCount 14 rfl rfl
theorem d_X1_matchCount_22 : dn cX1_matchCount 22 (.iinc 2 1) 3 25 := dnAt dc_X1_matchCount 15 rfl rfl
theorem d_X1_matchCount_25 : dn cX1_matchCount 25 (.goto (-21)) 3 28 := dnAt dc_X1_matchCount 16 rfl rfl
theorem d_X1_matchCount_28 : dn cX1_matchCount 28 (.iload_n 1) 1 29 := dnAt dc_X1_matchCount 17 rfl rfl
theorem d_X1_matchCount_29 : dn cX1_matchCount 29 (.ireturn) 1 30 := dnAt dc_X1_matchCount 18 rfl rfl
set_option maxHeartbeats 4000000 in
set_option maxRecDepth 100000 in
theorem k_matchCount {l : Launch} {G : eG} {ad : Nat → Nat → Nat} {h : hp} {g : mS} {r : Nat} (hm : co G ad g h) (hr : r < 8) (hl : ∀ k, k < 40 → mN g 21 (40 * r + k) < 512 ∧ mN g 21 (40 * r + k) % 2 = 0) : kC l G ad h yX1_matchCount cX1_matchCount 3 (Option.some Jvm.ClassFile.FieldType.int) { frames := 1, cells := 0, slots := 0, locals := 20 } [.ref (ad 20 r)] (fun v9 g9 _ => v9 = some (.int (nI (mSize g r))) ∧ g9 = g) := by
  refine kC.of hm (by decide) (Nat.le_of_ble_eq_true rfl) ?_
  intro x C A TY
  show VC G x ad h g 0 0 0 [(0, .ref (ad 20 r))] []
  refine c_iconst C d_X1_matchCount_0 (v := (nI 0)) rfl ?_
  refine c_istore_n C d_X1_matchCount_1 (lv' := [(1, .int (nI 0)), (0, .ref (ad 20 r))]) (by decide) rfl ?_
  refine c_iconst C d_X1_matchCount_2 (v := (nI 0)) rfl ?_
  refine c_istore_n C d_X1_matchCount_3 (lv' := [(2, .int (nI 0)), (1, .int (nI 0)), (0, .ref (ad 20 r))]) (by decide) rfl ?_
  have loop_4 : ∀ (fuel : Nat) (k : Nat), (k ≤ 40) → (41 - k) < fuel → VC G x ad h g 0 0 4 [(2, .int (nI k)), (1, .int (nI (sumTo (fun k => bits8 (mN g 21 (40 * r + k))) k))), (0, .ref (ad 20 r))] [] := by
    intro fuel
    induction fuel with
    | zero => intro k hk hf9; exact absurd hf9 (Nat.not_lt_zero _)
    | succ fuel ih_4 =>
      intro k hk hf9
      refine c_iload_n C d_X1_matchCount_4 0 rfl ?_
      refine c_bipush C d_X1_matchCount_5 (v := (nI 40)) rfl ?_
      refine cn_icmp_ge C d_X1_matchCount_7 (tgt := 28) rfl (by omega) (by omega) (fun c_7 => ?_) (fun c_7 => ?_)
      · skip
        obtain rfl : k = 40 := by omega
        refine c_iload_n C d_X1_matchCount_28 1 rfl ?_
        refine c_st (st' := [.int (nI (mSize g r))]) (rfl) ?_
        exact k_iret C A cfr_rf TY d_X1_matchCount_29 rfl (Nat.le_of_ble_eq_true rfl) (Nat.le_of_ble_eq_true rfl) (fun h9 F9 => ⟨rfl, rfl⟩)
      · skip
        refine c_iload_n C d_X1_matchCount_10 1 rfl ?_
        refine c_aload_n C d_X1_matchCount_11 2 rfl ?_
        refine c_get C d_X1_matchCount_12 fd_RX1_19 (k := 20) (i' := r) (decide_eq_true (by omega)) rfl (v := .ref (ad 21 r)) rfl ?_
        refine c_iload_n C d_X1_matchCount_15 0 rfl ?_
        refine c_ald C d_X1_matchCount_16 (k := 21) (i := r) (decide_eq_true (by omega)) rfl (by show _ < 40; omega) ?_
        refine k_callP C d_X1_matchCount_17 ok_RX1_23 (s_bitCount (mN g 21 (40 * r + k)) (hl k (by omega)).1) (rest := [.int (nI (sumTo (fun k => bits8 (mN g 21 (40 * r + k))) k))]) rfl rfl (Nat.le_of_ble_eq_true rfl) ⟨⟨by decide, by decide⟩, Nat.le_of_ble_eq_true rfl, Nat.le_of_ble_eq_true rfl⟩ ?_
        show VC G x ad h g 0 0 20 [(2, .int (nI k)), (1, .int (nI (sumTo (fun k => bits8 (mN g 21 (40 * r + k))) k))), (0, .ref (ad 20 r))] [.int (nI (popc (mN g 21 (40 * r + k)))), .int (nI (sumTo (fun k => bits8 (mN g 21 (40 * r + k))) k))]
        refine c_st (st' := [.int (nI (bits8 (mN g 21 (40 * r + k)))), .int (nI (sumTo (fun k => bits8 (mN g 21 (40 * r + k))) k))]) (by rw [popc_8 (hl k (by omega)).2]) ?_
        refine cn_iadd C d_X1_matchCount_20 ?_
        refine c_istore_n C d_X1_matchCount_21 (lv' := [(1, .int (nI ((sumTo (fun k => bits8 (mN g 21 (40 * r + k))) k) + (bits8 (mN g 21 (40 * r + k)))))), (2, .int (nI k)), (0, .ref (ad 20 r))]) (by decide) rfl ?_
        refine cn_iinc C d_X1_matchCount_22 (lv' := [(2, .int (nI (k + 1))), (1, .int (nI ((sumTo (fun k => bits8 (mN g 21 (40 * r + k))) k) + (bits8 (mN g 21 (40 * r + k)))))), (0, .ref (ad 20 r))]) 1 rfl (nI_inc _ rfl) (by decide) rfl ?_
        refine c_goto C d_X1_matchCount_25 (tgt := 4) rfl ?_
        refine c_lve (lv' := [(2, .int (nI (k + 1))), (1, .int (nI (sumTo (fun k => bits8 (mN g 21 (40 * r + k))) (k + 1)))), (0, .ref (ad 20 r))]) (rfl) ?_
        exact ih_4 (k + 1) (by omega) (by omega)
  refine c_lve (lv' := [(2, .int (nI 0)), (1, .int (nI (sumTo (fun k => bits8 (mN g 21 (40 * r + k))) 0))), (0, .ref (ad 20 r))]) (rfl) ?_
  exact loop_4 _ 0 (by omega) (Nat.lt_succ_self _)
def dl_X6_isResult : List (Nat × Instr × Nat) := [(0, .iload_n 1, 1), (1, .ifCond .lt 25, 3), (4, .iload_n 1, 1), (5, .bipush 8, 2), (7, .if_icmp .ge 19, 3), (10, .aload_n 0, 1), (11, .getfield 36, 3), (14, .iload_n 1, 1), (15, .aaload, 1), (16, .getfield 209, 3), (19, .ifCond .eq 7, 3), (22, .iconst 1, 1), (23, .goto 4, 3), (26, .iconst 0, 1), (27, .ireturn, 1)]
theorem dc_X6_isResult : dnL cX6_isResult dl_X6_isResult = true := by decide +kernel
theorem d_X6_isResult_0 : dn cX6_isResult 0 (.iload_n 1) 1 1 := dnAt dc_X6_isResult 0 rfl rfl
theorem d_X6_isResult_1 : dn cX6_isResult 1 (.ifCond .lt 25) 3 4 := dnAt dc_X6_isResult 1 rfl rfl
theorem d_X6_isResult_4 : dn cX6_isResult 4 (.iload_n 1) 1 5 := dnAt dc_X6_isResult 2 rfl rfl
theorem d_X6_isResult_5 : dn cX6_isResult 5 (.bipush 8) 2 7 := dnAt dc_X6_isResult 3 rfl rfl
theorem d_X6_isResult_7 : dn cX6_isResult 7 (.if_icmp .ge 19) 3 10 := dnAt dc_X6_isResult 4 rfl rfl
theorem d_X6_isResult_10 : dn cX6_isResult 10 (.aload_n 0) 1 11 := dnAt dc_X6_isResult 5 rfl rfl
theorem d_X6_isResult_11 : dn cX6_isResult 11 (.getfield 36) 3 14 := dnAt dc_X6_isResult 6 rfl rfl
theorem d_X6_isResult_14 : dn cX6_isResult 14 (.iload_n 1) 1 15 := dnAt dc_X6_isResult 7 rfl rfl
theorem d_X6_isResult_15 : dn cX6_isResult 15 (.aaload) 1 16 := dnAt dc_X6_isResult 8 rfl rfl
theorem d_X6_isResult_16 : dn cX6_isResult 16 (.getfield 209) 3 19 := dnAt dc_X6_isResult 9 rfl rfl
theorem d_X6_isResult_19 : dn cX6_isResult 19 (.ifCond .eq 7) 3 22 := dnAt dc_X6_isResult 10 rfl rfl
theorem d_X6_isResult_22 : dn cX6_isResult 22 (.iconst 1) 1 23 := dnAt dc_X6_isResult 11 rfl rfl
theorem d_X6_isResult_23 : dn cX6_isResult 23 (.goto 4) 3 26 := dnAt dc_X6_isResult 12 rfl rfl
theorem d_X6_isResult_26 : dn cX6_isResult 26 (.iconst 0) 1 27 := dnAt dc_X6_isResult 13 rfl rfl
theorem d_X6_isResult_27 : dn cX6_isResult 27 (.ireturn) 1 28 := dnAt dc_X6_isResult 14 rfl rfl
set_option maxHeartbeats 4000000 in
set_option maxRecDepth 100000 in
theorem k_isResult {l : Launch} {G : eG} {ad : Nat → Nat → Nat} {h : hp} {g : mS} {v : Int32} (hm : co G ad g h) (J : rInv g) : kC l G ad h yX6_isResult cX6_isResult 2 (Option.some Jvm.ClassFile.FieldType.boolean) { frames := 0, cells := 0, slots := 0, locals := 0 } [.ref (ad 0 0), .int v] (fun v9 g9 _ => v9 = some (.int (bI (mIsR g v))) ∧ g9 = g) := by
  refine kC.of hm (by decide) (Nat.le_of_ble_eq_true rfl) ?_
  intro x C A TY
  show VC G x ad h g 0 0 0 [(0, .ref (ad 0 0)), (1, .int v)] []
  refine c_iload_n C d_X6_isResult_0 1 rfl ?_
  have join_27 : VC G x ad h g 0 0 27 [(0, .ref (ad 0 0)), (1, .int v)] [.int (bI (mIsR g v))] := by
    exact k_iret C A cfr_rf TY d_X6_isResult_27 (bI_nar _) (Nat.le_of_ble_eq_true rfl) (Nat.le_of_ble_eq_true rfl) (fun h9 F9 => ⟨rfl, rfl⟩)
  refine c_if_lt C d_X6_isResult_1 (tgt := 26) rfl (fun c_1 => ?_) (fun c_1 => ?_)
  · skip
    refine c_iconst C d_X6_isResult_26 (v := (bI false)) rfl ?_
    refine c_st (st' := [.int (bI (mIsR g v))]) (congrArg (fun z => [Value.int (bI z)]) (mIsR_F J (Or.inl (inR_F1 c_1))).symm) ?_
    exact join_27  
  · skip
    refine c_iload_n C d_X6_isResult_4 1 rfl ?_
    refine c_bipush C d_X6_isResult_5 (v := (nI 8)) rfl ?_
    refine c_icmp_ge C d_X6_isResult_7 (tgt := 26) rfl (fun c_7 => ?_) (fun c_7 => ?_)
    · skip
      refine c_iconst C d_X6_isResult_26 (v := (bI false)) rfl ?_
      refine c_st (st' := [.int (bI (mIsR g v))]) (congrArg (fun z => [Value.int (bI z)]) (mIsR_F J (Or.inl (inR_F2 (b := 7) (Int32.not_lt.mpr c_7) (by decide)))).symm) ?_
      exact join_27  
    · skip
      have i1 : inR v 0 7 = true := inR_Tb (b := 7) c_1 (Int32.not_le.mp c_7) (by decide)
      obtain ⟨j1, -, s1⟩ := inR_of i1 (by decide) (by decide)
      refine c_lve (lv' := [(0, .ref (ad 0 0)), (1, .int (nI (tn v)))]) (by rw [← j1]) ?_
      refine c_aload_n C d_X6_isResult_10 0 rfl ?_
      refine c_get C d_X6_isResult_11 fd_RX6_36 (k := 0) (i' := 0) rfl rfl (v := .ref (ad 4 0)) rfl ?_
      refine c_iload_n C d_X6_isResult_14 1 rfl ?_
      refine c_aRes C d_X6_isResult_15 (s := tn v) (by omega) ?_
      refine c_get C d_X6_isResult_16 fd_RX6_209 (k := 20) (i' := tn v) (decide_eq_true (by omega)) rfl (v := .int (bI (mB g 32 (tn v)))) rfl ?_
      refine cb_if_eq C d_X6_isResult_19 (tgt := 26) rfl (fun c_19 => ?_) (fun c_19 => ?_)
      · skip
        refine c_iconst C d_X6_isResult_26 (v := (bI false)) rfl ?_
        refine c_lve (lv' := [(0, .ref (ad 0 0)), (1, .int v)]) (by rw [← j1]) ?_
        refine c_st (st' := [.int (bI (mIsR g v))]) (congrArg (fun z => [Value.int (bI z)]) (mIsR_F J (Or.inr ⟨i1, c_19⟩)).symm) ?_
        exact join_27  
      · skip
        refine c_iconst C d_X6_isResult_22 (v := (bI true)) rfl ?_
        refine c_goto C d_X6_isResult_23 (tgt := 27) rfl ?_
        refine c_lve (lv' := [(0, .ref (ad 0 0)), (1, .int v)]) (by rw [← j1]) ?_
        refine c_st (st' := [.int (bI (mIsR g v))]) (congrArg (fun z => [Value.int (bI z)]) (mIsR_T J i1 c_19).symm) ?_
        exact join_27  
def dl_X6_knownResult : List (Nat × Instr × Nat) := [(0, .aload_n 0, 1), (1, .iload_n 1, 1), (2, .invokevirtual 212, 3), (5, .ifCond .ne 13, 3), (8, .new 88, 3), (11, .dup, 1), (12, .ldc 235, 2), (14, .invokespecial 92, 3), (17, .athrow, 1), (18, .aload_n 0, 1), (19, .getfield 36, 3), (22, .iload_n 1, 1), (23, .aaload, 1), (24, .areturn, 1)]
theorem dc_X6_knownResult : dnL cX6_knownResult dl_X6_knownResult = true := by decide +kernel
theorem d_X6_knownResult_0 : dn cX6_knownResult 0 (.aload_n 0) 1 1 := dnAt dc_X6_knownResult 0 rfl rfl
theorem d_X6_knownResult_1 : dn cX6_knownResult 1 (.iload_n 1) 1 2 := dnAt dc_X6_knownResult 1 rfl rfl
theorem d_X6_knownResult_2 : dn cX6_knownResult 2 (.invokevirtual 212) 3 5 := dnAt dc_X6_knownResult 2 rfl rfl
theorem d_X6_knownResult_5 : dn cX6_knownResult 5 (.ifCond .ne 13) 3 8 := dnAt dc_X6_knownResult 3 rfl rfl
theorem d_X6_knownResult_8 : dn cX6_knownResult 8 (.new 88) 3 11 := dnAt dc_X6_knownResult 4 rfl rfl
theorem d_X6_knownResult_11 : dn cX6_knownResult 11 (.dup) 1 12 := dnAt dc_X6_knownResult 5 rfl rfl
theorem d_X6_knownResult_12 : dn cX6_knownResult 12 (.ldc 235) 2 14 := dnAt dc_X6_knownResult 6 rfl rfl
theorem d_X6_knownResult_14 : dn cX6_knownResult 14 (.invokespecial 92) 3 17 := dnAt dc_X6_knownResult 7 rfl rfl
theorem d_X6_knownResult_17 : dn cX6_knownResult 17 (.athrow) 1 18 := dnAt dc_X6_knownResult 8 rfl rfl
theorem d_X6_knownResult_18 : dn cX6_knownResult 18 (.aload_n 0) 1 19 := dnAt dc_X6_knownResult 9 rfl rfl
theorem d_X6_knownResult_19 : dn cX6_knownResult 19 (.getfield 36) 3 22 := dnAt dc_X6_knownResult 10 rfl rfl
theorem d_X6_knownResult_22 : dn cX6_knownResult 22 (.iload_n 1) 1 23 := dnAt dc_X6_knownResult 11 rfl rfl
theorem d_X6_knownResult_23 : dn cX6_knownResult 23 (.aaload) 1 24 := dnAt dc_X6_knownResult 12 rfl rfl
theorem d_X6_knownResult_24 : dn cX6_knownResult 24 (.areturn) 1 25 := dnAt dc_X6_knownResult 13 rfl rfl
set_option maxHeartbeats 4000000 in
set_option maxRecDepth 100000 in
theorem k_knownResult {l : Launch} {G : eG} {ad : Nat → Nat → Nat} {h : hp} {g : mS} (hlf : l.stackTraces = false) (hm : co G ad g h) (J : rInv g) (v : Int32) : kX l G ad h yX6_knownResult cX6_knownResult 2 (Option.some (Jvm.ClassFile.FieldType.object "Corpusline$Result")) { frames := 6, cells := 1, slots := 6, locals := 90 } [.ref (ad 0 0), .int v] (fun v9 g9 _ => v9 = some (.ref (ad 20 (tn v))) ∧ g9 = g ∧ mIsR g v = true) (fun E9 g9 => E9 = "java/lang/IndexOutOfBoundsException" ∧ mIsR g v = false ∧ g9 = g) := by
  refine kX.of hlf hm (by decide) (Nat.le_of_ble_eq_true rfl) ?_
  intro x C A TY X
  show VC G x ad h g 0 0 0 [(0, .ref (ad 0 0)), (1, .int v)] []
  refine c_aload_n C d_X6_knownResult_0 0 rfl ?_
  refine c_iload_n C d_X6_knownResult_1 1 rfl ?_
  refine k_callV C d_X6_knownResult_2 ok_RX6_212 (k := 0) (i' := 0) (fun l h hm hf => k_isResult hm J) rfl rfl rfl rfl (rest := []) rfl rfl (Nat.le_of_ble_eq_true rfl) ⟨⟨by decide, by decide⟩, Nat.le_of_ble_eq_true rfl, Nat.le_of_ble_eq_true rfl⟩ (fun v9 g9 hq1 e9 F1 => ?_)
  obtain ⟨rfl, z1⟩ := e9
  refine c_eq z1 ?_
  refine c_base F1 ?_
  show VC G x ad h g 0 0 5 [(0, .ref (ad 0 0)), (1, .int v)] [.int (bI (mIsR g v))]
  refine cb_if_ne C d_X6_knownResult_5 (tgt := 18) rfl (fun c_5 => ?_) (fun c_5 => ?_)
  · skip
    obtain ⟨j1, s1, t1⟩ := mIsR_of c_5
    refine c_lve (lv' := [(0, .ref (ad 0 0)), (1, .int (nI (tn v)))]) (by rw [← j1]) ?_
    refine c_aload_n C d_X6_knownResult_18 0 rfl ?_
    refine c_get C d_X6_knownResult_19 fd_RX6_36 (k := 0) (i' := 0) rfl rfl (v := .ref (ad 4 0)) rfl ?_
    refine c_iload_n C d_X6_knownResult_22 1 rfl ?_
    refine c_aRes C d_X6_knownResult_23 (s := tn v) (by omega) ?_
    exact k_aret C A cfr_rf TY d_X6_knownResult_24 (Nat.le_of_ble_eq_true rfl) (Nat.le_of_ble_eq_true rfl) (fun h9 F9 => ⟨rfl, rfl, c_5⟩)
  · skip
    exact k_throw C X cfr_rf d_X6_knownResult_8 d_X6_knownResult_11 d_X6_knownResult_12 d_X6_knownResult_14 d_X6_knownResult_17 th_88 (text := "no such result") (by decide) ⟨by decide, Nat.le_of_ble_eq_true rfl, Nat.le_of_ble_eq_true rfl, Nat.le_of_ble_eq_true rfl⟩ (⟨rfl, c_5, rfl⟩)
def dl_X6_drop : List (Nat × Instr × Nat) := [(0, .aload_n 0, 1), (1, .iload_n 1, 1), (2, .invokevirtual 184, 3), (5, .astore_n 2, 1), (6, .aload_n 2, 1), (7, .iconst 0, 1), (8, .putfield 209, 3), (11, .aload_n 2, 1), (12, .invokevirtual 181, 3), (15, .ireturn, 1)]
theorem dc_X6_drop : dnL cX6_drop dl_X6_drop = true := by decide +kernel
theorem d_X6_drop_0 : dn cX6_drop 0 (.aload_n 0) 1 1 := dnAt dc_X6_drop 0 rfl rfl
theorem d_X6_drop_1 : dn cX6_drop 1 (.iload_n 1) 1 2 := dnAt dc_X6_drop 1 rfl rfl
theorem d_X6_drop_2 : dn cX6_drop 2 (.invokevirtual 184) 3 5 := dnAt dc_X6_drop 2 rfl rfl
theorem d_X6_drop_5 : dn cX6_drop 5 (.astore_n 2) 1 6 := dnAt dc_X6_drop 3 rfl rfl
theorem d_X6_drop_6 : dn cX6_drop 6 (.aload_n 2) 1 7 := dnAt dc_X6_drop 4 rfl rfl
theorem d_X6_drop_7 : dn cX6_drop 7 (.iconst 0) 1 8 := dnAt dc_X6_drop 5 rfl rfl
theorem d_X6_drop_8 : dn cX6_drop 8 (.putfield 209) 3 11 := dnAt dc_X6_drop 6 rfl rfl
theorem d_X6_drop_11 : dn cX6_drop 11 (.aload_n 2) 1 12 := dnAt dc_X6_drop 7 rfl rfl
theorem d_X6_drop_12 : dn cX6_drop 12 (.invokevirtual 181) 3 15 := dnAt dc_X6_drop 8 rfl rfl
theorem d_X6_drop_15 : dn cX6_drop 15 (.ireturn) 1 16 := dnAt dc_X6_drop 9 rfl rfl
set_option maxHeartbeats 4000000 in
set_option maxRecDepth 100000 in
theorem k_drop {l : Launch} {G : eG} {ad : Nat → Nat → Nat} {h : hp} {g : mS} {v : Int32} (hlf : l.stackTraces = false) (hm : co G ad g h) (I : mInv g) (J : rInv g) : kX l G ad h yX6_drop cX6_drop 3 (Option.some Jvm.ClassFile.FieldType.int) { frames := 7, cells := 1, slots := 6, locals := 111 } [.ref (ad 0 0), .int v] (fun v9 g9 _ => v9 = some (.int (nI (rDrop g v))) ∧ g9 = uB g 32 (tn v) false ∧ mIsR g v = true) (fun E9 g9 => (E9 = "java/lang/IndexOutOfBoundsException" ∧ cWR g v = 1) ∧ g9 = g) := by
  refine kX.of hlf hm (by decide) (Nat.le_of_ble_eq_true rfl) ?_
  intro x C A TY X
  show VC G x ad h g 0 0 0 [(0, .ref (ad 0 0)), (1, .int v)] []
  refine c_aload_n C d_X6_drop_0 0 rfl ?_
  refine c_iload_n C d_X6_drop_1 1 rfl ?_
  refine k_callVX C X cfr_rf d_X6_drop_2 ok_RX6_184 (k := 0) (i' := 0) (fun l h hl hm hf => k_knownResult hl hm J v) rfl rfl rfl rfl (rest := []) rfl rfl (Nat.le_of_ble_eq_true rfl) ⟨⟨by decide, by decide⟩, Nat.le_of_ble_eq_true rfl, Nat.le_of_ble_eq_true rfl⟩ (fun _ _ e => ⟨⟨e.1, by rw [cWR, if_neg (by rw [e.2.1]; decide)]⟩, e.2.2⟩) (fun v9 g9 hq1 e9 F1 => ?_)
  obtain ⟨rfl, z1, i1⟩ := e9
  refine c_eq z1 ?_
  obtain ⟨j1, s1, t1⟩ := mIsR_of i1
  refine c_base F1 ?_
  show VC G x ad h g 1 6 5 [(0, .ref (ad 0 0)), (1, .int v)] [.ref (ad 20 (tn v))]
  refine c_astore_n C d_X6_drop_5 (lv' := [(2, .ref (ad 20 (tn v))), (0, .ref (ad 0 0)), (1, .int v)]) (by decide) rfl ?_
  refine c_aload_n C d_X6_drop_6 0 rfl ?_
  refine c_iconst C d_X6_drop_7 (v := (nI 0)) rfl ?_
  refine c_put C d_X6_drop_8 pf_RX6_209 (k := 20) (i' := tn v) (g' := uB g 32 (tn v) false) (decide_eq_true (by omega)) rfl rfl rfl (Nat.le_of_ble_eq_true rfl) rfl (by simp only [ce, cRes, mN_uN, mB_uB, mN_uB, mB_uN, List.set_cons_zero, List.set_cons_succ, and_self, and_true, true_and, if_true, if_false, (by decide : ¬ (6:Nat) = 5), (by decide : ¬ (5:Nat) = 6)]; try rfl) (oth_B (Or.inr (Or.inr (Or.inr ⟨rfl, rfl, rfl⟩)))) ?_
  refine c_aload_n C d_X6_drop_11 0 rfl ?_
  refine k_callV C d_X6_drop_12 ok_RX6_181 (k := 20) (i' := tn v) (fun l h hm hf => k_matchCount hm (by omega) (sz_b I (by omega))) (decide_eq_true (by omega)) rfl rfl rfl (rest := []) rfl rfl (Nat.le_of_ble_eq_true rfl) ⟨⟨by decide, by decide⟩, Nat.le_of_ble_eq_true rfl, Nat.le_of_ble_eq_true rfl⟩ (fun v9 g9 hq2 e9 F2 => ?_)
  obtain ⟨rfl, z2⟩ := e9
  refine c_eq z2 ?_
  refine c_base F2 ?_
  show VC G x ad h (uB g 32 (tn v) false) 1 6 15 [(2, .ref (ad 20 (tn v))), (0, .ref (ad 0 0)), (1, .int v)] [.int (nI (mSize (uB g 32 (tn v) false) (tn v)))]
  refine c_st (st' := [.int (nI (rDrop g v))]) (by rw [rDrop, if_pos i1]; rfl) ?_
  exact k_iret C A cfr_rf TY d_X6_drop_15 rfl (Nat.le_of_ble_eq_true rfl) (Nat.le_of_ble_eq_true rfl) (fun h9 F9 => ⟨rfl, rfl, i1⟩)
def dl_X6_size : List (Nat × Instr × Nat) := [(0, .aload_n 0, 1), (1, .iload_n 1, 1), (2, .invokevirtual 212, 3), (5, .ifCond .eq 15, 3), (8, .aload_n 0, 1), (9, .getfield 36, 3), (12, .iload_n 1, 1), (13, .aaload, 1), (14, .invokevirtual 181, 3), (17, .goto 4, 3), (20, .iconst (-1), 1), (21, .ireturn, 1)]
theorem dc_X6_size : dnL cX6_size dl_X6_size = true := by decide +kernel
theorem d_X6_size_0 : dn cX6_size 0 (.aload_n 0) 1 1 := dnAt dc_X6_size 0 rfl rfl
theorem d_X6_size_1 : dn cX6_size 1 (.iload_n 1) 1 2 := dnAt dc_X6_size 1 rfl rfl
theorem d_X6_size_2 : dn cX6_size 2 (.invokevirtual 212) 3 5 := dnAt dc_X6_size 2 rfl rfl
theorem d_X6_size_5 : dn cX6_size 5 (.ifCond .eq 15) 3 8 := dnAt dc_X6_size 3 rfl rfl
theorem d_X6_size_8 : dn cX6_size 8 (.aload_n 0) 1 9 := dnAt dc_X6_size 4 rfl rfl
theorem d_X6_size_9 : dn cX6_size 9 (.getfield 36) 3 12 := dnAt dc_X6_size 5 rfl rfl
theorem d_X6_size_12 : dn cX6_size 12 (.iload_n 1) 1 13 := dnAt dc_X6_size 6 rfl rfl
theorem d_X6_size_13 : dn cX6_size 13 (.aaload) 1 14 := dnAt dc_X6_size 7 rfl rfl
theorem d_X6_size_14 : dn cX6_size 14 (.invokevirtual 181) 3 17 := dnAt dc_X6_size 8 rfl rfl
theorem d_X6_size_17 : dn cX6_size 17 (.goto 4) 3 20 := dnAt dc_X6_size 9 rfl rfl
theorem d_X6_size_20 : dn cX6_size 20 (.iconst (-1)) 1 21 := dnAt dc_X6_size 10 rfl rfl
theorem d_X6_size_21 : dn cX6_size 21 (.ireturn) 1 22 := dnAt dc_X6_size 11 rfl rfl
set_option maxHeartbeats 4000000 in
set_option maxRecDepth 100000 in
theorem k_size {l : Launch} {G : eG} {ad : Nat → Nat → Nat} {h : hp} {g : mS} {v : Int32} (hm : co G ad g h) (I : mInv g) (J : rInv g) : kC l G ad h yX6_size cX6_size 2 (Option.some Jvm.ClassFile.FieldType.int) { frames := 2, cells := 0, slots := 0, locals := 42 } [.ref (ad 0 0), .int v] (fun v9 g9 _ => v9 = some (.int (rSz g v)) ∧ g9 = g) := by
  refine kC.of hm (by decide) (Nat.le_of_ble_eq_true rfl) ?_
  intro x C A TY
  show VC G x ad h g 0 0 0 [(0, .ref (ad 0 0)), (1, .int v)] []
  refine c_aload_n C d_X6_size_0 0 rfl ?_
  refine c_iload_n C d_X6_size_1 1 rfl ?_
  refine k_callV C d_X6_size_2 ok_RX6_212 (k := 0) (i' := 0) (fun l h hm hf => k_isResult hm J) rfl rfl rfl rfl (rest := []) rfl rfl (Nat.le_of_ble_eq_true rfl) ⟨⟨by decide, by decide⟩, Nat.le_of_ble_eq_true rfl, Nat.le_of_ble_eq_true rfl⟩ (fun v9 g9 hq1 e9 F1 => ?_)
  obtain ⟨rfl, z1⟩ := e9
  refine c_eq z1 ?_
  refine c_base F1 ?_
  show VC G x ad h g 0 0 5 [(0, .ref (ad 0 0)), (1, .int v)] [.int (bI (mIsR g v))]
  have join_21 : VC G x ad h g 0 0 21 [(0, .ref (ad 0 0)), (1, .int v)] [.int (rSz g v)] := by
    exact k_iret C A cfr_rf TY d_X6_size_21 rfl (Nat.le_of_ble_eq_true rfl) (Nat.le_of_ble_eq_true rfl) (fun h9 F9 => ⟨rfl, rfl⟩)
  refine cb_if_eq C d_X6_size_5 (tgt := 20) rfl (fun c_5 => ?_) (fun c_5 => ?_)
  · skip
    refine c_iconst C d_X6_size_20 (v := ((-1))) rfl ?_
    refine c_st (st' := [.int (rSz g v)]) (by rw [rSz, if_neg (by rw [c_5]; decide)]) ?_
    exact join_21  
  · skip
    obtain ⟨j1, s1, t1⟩ := mIsR_of c_5
    refine c_lve (lv' := [(0, .ref (ad 0 0)), (1, .int (nI (tn v)))]) (by rw [← j1]) ?_
    refine c_aload_n C d_X6_size_8 0 rfl ?_
    refine c_get C d_X6_size_9 fd_RX6_36 (k := 0) (i' := 0) rfl rfl (v := .ref (ad 4 0)) rfl ?_
    refine c_iload_n C d_X6_size_12 1 rfl ?_
    refine c_aRes C d_X6_size_13 (s := tn v) (by omega) ?_
    refine k_callV C d_X6_size_14 ok_RX6_181 (k := 20) (i' := tn v) (fun l h hm hf => k_matchCount hm (by omega) (sz_b I (by omega))) (decide_eq_true (by omega)) rfl rfl rfl (rest := []) rfl rfl (Nat.le_of_ble_eq_true rfl) ⟨⟨by decide, by decide⟩, Nat.le_of_ble_eq_true rfl, Nat.le_of_ble_eq_true rfl⟩ (fun v9 g9 hq2 e9 F2 => ?_)
    obtain ⟨rfl, z2⟩ := e9
    refine c_eq z2 ?_
    refine c_base F2 ?_
    show VC G x ad h g 0 0 17 [(0, .ref (ad 0 0)), (1, .int (nI (tn v)))] [.int (nI (mSize g (tn v)))]
    refine c_goto C d_X6_size_17 (tgt := 21) rfl ?_
    refine c_lve (lv' := [(0, .ref (ad 0 0)), (1, .int v)]) (by rw [← j1]) ?_
    refine c_st (st' := [.int (rSz g v)]) (by rw [rSz, if_pos c_5]) ?_
    exact join_21  
