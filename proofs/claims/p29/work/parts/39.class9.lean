theorem tw_14 : (Jvm.Cond.initialized "Corpusline$Settings") ∈ TB := tb_of 14 (by decide +kernel) rfl
theorem tw_394 : (Jvm.Cond.static ({ cls := "Corpusline$Settings", name := "fieldOf", desc := "(I)I" } : Jvm.MethodName)) ∈ TB := tb_of 394 (by decide +kernel) rfl
theorem tw_395 : (Jvm.Cond.code ({ cls := "Corpusline$Settings", name := "fieldOf", desc := "(I)I" } : Jvm.MethodName) prog_4_method_2_code (1 : Nat) (Option.some Jvm.ClassFile.FieldType.int)) ∈ TB := tb_of 395 (by decide +kernel) rfl
theorem tw_536 : (Jvm.Cond.methodLink "Corpusline$Settings" (9 : Nat) ({ cls := "Corpusline$Settings", name := "fieldOf", desc := "(I)I" } : Jvm.MethodName)) ∈ TB := tb_of 536 (by decide +kernel) rfl
theorem ok_RX2_9 : okS RX2 9 yX2_fieldOf cX2_fieldOf 1 (Option.some Jvm.ClassFile.FieldType.int) 1 := ⟨tw_536, tw_394, tw_14, tw_395, ⟨by decide, by decide, by decide +kernel⟩⟩
/-- the settings' fields -/
def stF (l : Nat) : Nat := 63 * 2 ^ (l * 6)
def stT (s l : Nat) : Int32 := nI (s / 2 ^ (l * 6) &&& 63) - nI 1
def stW (s l p : Nat) : Nat := s &&& (stF l ^^^ 4294967295) ||| (p + 1) * 2 ^ (l * 6)
def dl_X2_fieldOf : List (Nat × Instr × Nat) := [(0, .bipush 63, 2), (2, .iload_n 0, 1), (3, .bipush 6, 2), (5, .imul, 1), (6, .ishl, 1), (7, .ireturn, 1)]
theorem dc_X2_fieldOf : dnL cX2_fieldOf dl_X2_fieldOf = true := by decide +kernel
theorem d_X2_fieldOf_0 : dn cX2_fieldOf 0 (.bipush 63) 2 2 := dnAt dc_X2_fieldOf 0 rfl rfl
theorem d_X2_fieldOf_2 : dn cX2_fieldOf 2 (.iload_n 0) 1 3 := dnAt dc_X2_fieldOf 1 rfl rfl
theorem d_X2_fieldOf_3 : dn cX2_fieldOf 3 (.bipush 6) 2 5 := dnAt dc_X2_fieldOf 2 rfl rfl
theorem d_X2_fieldOf_5 : dn cX2_fieldOf 5 (.imul) 1 6 := dnAt dc_X2_fieldOf 3 rfl rfl
theorem d_X2_fieldOf_6 : dn cX2_fieldOf 6 (.ishl) 1 7 := dnAt dc_X2_fieldOf 4 rfl rfl
theorem d_X2_fieldOf_7 : dn cX2_fieldOf 7 (.ireturn) 1 8 := dnAt dc_X2_fieldOf 5 rfl rfl
set_option maxHeartbeats 4000000 in
set_option maxRecDepth 100000 in
theorem s_fieldOf (e : Nat) (hl : e < 3) : sC yX2_fieldOf cX2_fieldOf 1 (Option.some Jvm.ClassFile.FieldType.int) { frames := 0, cells := 0, slots := 0, locals := 0 } [.int (nI e)] (some (.int (nI (stF e)))) := by
  refine sC.of (by decide) (Nat.le_of_ble_eq_true rfl) ?_
  intro G x h C A TY
  show VV G x 0 0 h 0 [(0, .int (nI e))] []
  refine r_bipush C d_X2_fieldOf_0 (v := (nI 63)) rfl ?_
  refine r_iload_n C d_X2_fieldOf_2 0 rfl ?_
  refine r_bipush C d_X2_fieldOf_3 (v := (nI 6)) rfl ?_
  refine rn_imul C d_X2_fieldOf_5 ?_
  refine rn_ishl C d_X2_fieldOf_6 (by omega) ?_
  refine r_st (st' := [.int (nI (stF e))]) (rfl) ?_
  exact r_iret C A TY d_X2_fieldOf_7 rfl (by decide) (by decide) (⟨rfl, rfl⟩)
def dl_X2_tokenOf : List (Nat × Instr × Nat) := [(0, .iload_n 0, 1), (1, .iload_n 1, 1), (2, .bipush 6, 2), (4, .imul, 1), (5, .iushr, 1), (6, .bipush 63, 2), (8, .iand, 1), (9, .iconst 1, 1), (10, .isub, 1), (11, .ireturn, 1)]
theorem dc_X2_tokenOf : dnL cX2_tokenOf dl_X2_tokenOf = true := by decide +kernel
theorem d_X2_tokenOf_0 : dn cX2_tokenOf 0 (.iload_n 0) 1 1 := dnAt dc_X2_tokenOf 0 rfl rfl
theorem d_X2_tokenOf_1 : dn cX2_tokenOf 1 (.iload_n 1) 1 2 := dnAt dc_X2_tokenOf 1 rfl rfl
theorem d_X2_tokenOf_2 : dn cX2_tokenOf 2 (.bipush 6) 2 4 := dnAt dc_X2_tokenOf 2 rfl rfl
theorem d_X2_tokenOf_4 : dn cX2_tokenOf 4 (.imul) 1 5 := dnAt dc_X2_tokenOf 3 rfl rfl
theorem d_X2_tokenOf_5 : dn cX2_tokenOf 5 (.iushr) 1 6 := dnAt dc_X2_tokenOf 4 rfl rfl
theorem d_X2_tokenOf_6 : dn cX2_tokenOf 6 (.bipush 63) 2 8 := dnAt dc_X2_tokenOf 5 rfl rfl
theorem d_X2_tokenOf_8 : dn cX2_tokenOf 8 (.iand) 1 9 := dnAt dc_X2_tokenOf 6 rfl rfl
theorem d_X2_tokenOf_9 : dn cX2_tokenOf 9 (.iconst 1) 1 10 := dnAt dc_X2_tokenOf 7 rfl rfl
theorem d_X2_tokenOf_10 : dn cX2_tokenOf 10 (.isub) 1 11 := dnAt dc_X2_tokenOf 8 rfl rfl
theorem d_X2_tokenOf_11 : dn cX2_tokenOf 11 (.ireturn) 1 12 := dnAt dc_X2_tokenOf 9 rfl rfl
set_option maxHeartbeats 4000000 in
set_option maxRecDepth 100000 in
theorem s_tokenOf (s e : Nat) (hs : s < 2147483648) (hl : e < 3) : sC yX2_tokenOf cX2_tokenOf 2 (Option.some Jvm.ClassFile.FieldType.int) { frames := 0, cells := 0, slots := 0, locals := 0 } [.int (nI s), .int (nI e)] (some (.int (stT s e))) := by
  refine sC.of (by decide) (Nat.le_of_ble_eq_true rfl) ?_
  intro G x h C A TY
  show VV G x 0 0 h 0 [(0, .int (nI s)), (1, .int (nI e))] []
  refine r_iload_n C d_X2_tokenOf_0 0 rfl ?_
  refine r_iload_n C d_X2_tokenOf_1 1 rfl ?_
  refine r_bipush C d_X2_tokenOf_2 (v := (nI 6)) rfl ?_
  refine rn_imul C d_X2_tokenOf_4 ?_
  refine rn_iushr C d_X2_tokenOf_5 (by omega) (by omega) ?_
  refine r_bipush C d_X2_tokenOf_6 (v := (nI 63)) rfl ?_
  refine rn_iand C d_X2_tokenOf_8 ?_
  refine r_iconst C d_X2_tokenOf_9 (v := (nI 1)) rfl ?_
  refine r_isub C d_X2_tokenOf_10 ?_
  refine r_st (st' := [.int (stT s e)]) (rfl) ?_
  exact r_iret C A TY d_X2_tokenOf_11 rfl (by decide) (by decide) (⟨rfl, rfl⟩)
def dl_X2_withToken : List (Nat × Instr × Nat) := [(0, .iload_n 0, 1), (1, .iload_n 1, 1), (2, .invokestatic 9, 3), (5, .iconst (-1), 1), (6, .ixor, 1), (7, .iand, 1), (8, .iload_n 2, 1), (9, .iconst 1, 1), (10, .iadd, 1), (11, .iload_n 1, 1), (12, .bipush 6, 2), (14, .imul, 1), (15, .ishl, 1), (16, .ior, 1), (17, .ireturn, 1)]
theorem dc_X2_withToken : dnL cX2_withToken dl_X2_withToken = true := by decide +kernel
theorem d_X2_withToken_0 : dn cX2_withToken 0 (.iload_n 0) 1 1 := dnAt dc_X2_withToken 0 rfl rfl
theorem d_X2_withToken_1 : dn cX2_withToken 1 (.iload_n 1) 1 2 := dnAt dc_X2_withToken 1 rfl rfl
theorem d_X2_withToken_2 : dn cX2_withToken 2 (.invokestatic 9) 3 5 := dnAt dc_X2_withToken 2 rfl rfl
theorem d_X2_withToken_5 : dn cX2_withToken 5 (.iconst (-1)) 1 6 := dnAt dc_X2_withToken 3 rfl rfl
theorem d_X2_withToken_6 : dn cX2_withToken 6 (.ixor) 1 7 := dnAt dc_X2_withToken 4 rfl rfl
theorem d_X2_withToken_7 : dn cX2_withToken 7 (.iand) 1 8 := dnAt dc_X2_withToken 5 rfl rfl
theorem d_X2_withToken_8 : dn cX2_withToken 8 (.iload_n 2) 1 9 := dnAt dc_X2_withToken 6 rfl rfl
theorem d_X2_withToken_9 : dn cX2_withToken 9 (.iconst 1) 1 10 := dnAt dc_X2_withToken 7 rfl rfl
theorem d_X2_withToken_10 : dn cX2_withToken 10 (.iadd) 1 11 := dnAt dc_X2_withToken 8 rfl rfl
theorem d_X2_withToken_11 : dn cX2_withToken 11 (.iload_n 1) 1 12 := dnAt dc_X2_withToken 9 rfl rfl
theorem d_X2_withToken_12 : dn cX2_withToken 12 (.bipush 6) 2 14 := dnAt dc_X2_withToken 10 rfl rfl
theorem d_X2_withToken_14 : dn cX2_withToken 14 (.imul) 1 15 := dnAt dc_X2_withToken 11 rfl rfl
theorem d_X2_withToken_15 : dn cX2_withToken 15 (.ishl) 1 16 := dnAt dc_X2_withToken 12 rfl rfl
theorem d_X2_withToken_16 : dn cX2_withToken 16 (.ior) 1 17 := dnAt dc_X2_withToken 13 rfl rfl
theorem d_X2_withToken_17 : dn cX2_withToken 17 (.ireturn) 1 18 := dnAt dc_X2_withToken 14 rfl rfl
set_option maxHeartbeats 4000000 in
set_option maxRecDepth 100000 in
theorem s_withToken (s e p : Nat) (hl : e < 3) : sC yX2_withToken cX2_withToken 3 (Option.some Jvm.ClassFile.FieldType.int) { frames := 1, cells := 0, slots := 0, locals := 20 } [.int (nI s), .int (nI e), .int (nI p)] (some (.int (nI (stW s e p)))) := by
  refine sC.of (by decide) (Nat.le_of_ble_eq_true rfl) ?_
  intro G x h C A TY
  show VV G x 0 0 h 0 [(0, .int (nI s)), (1, .int (nI e)), (2, .int (nI p))] []
  refine r_iload_n C d_X2_withToken_0 0 rfl ?_
  refine r_iload_n C d_X2_withToken_1 1 rfl ?_
  refine r_callS C d_X2_withToken_2 ok_RX2_9 (fun l _ => s_fieldOf e (by omega) l G h) (rest := [.int (nI s)]) rfl rfl (Nat.le_of_ble_eq_true rfl) ⟨⟨by decide, by decide⟩, by decide, by decide⟩ (fun v9 h9 e9 => ?_)
  obtain ⟨rfl, e9⟩ := e9
  refine r_eqh e9 ?_
  show VV G x 0 0 h 5 [(0, .int (nI s)), (1, .int (nI e)), (2, .int (nI p))] [.int (nI (stF e)), .int (nI s)]
  refine r_iconst C d_X2_withToken_5 (v := ((-1))) rfl ?_
  refine r_ixor C d_X2_withToken_6 ?_
  refine r_iand C d_X2_withToken_7 ?_
  refine r_st (st' := [.int (nI (s &&& (stF e ^^^ 4294967295)))]) (by rw [nI_andN]) ?_
  refine r_iload_n C d_X2_withToken_8 2 rfl ?_
  refine r_iconst C d_X2_withToken_9 (v := (nI 1)) rfl ?_
  refine rn_iadd C d_X2_withToken_10 ?_
  refine r_iload_n C d_X2_withToken_11 1 rfl ?_
  refine r_bipush C d_X2_withToken_12 (v := (nI 6)) rfl ?_
  refine rn_imul C d_X2_withToken_14 ?_
  refine rn_ishl C d_X2_withToken_15 (by omega) ?_
  refine rn_ior C d_X2_withToken_16 ?_
  refine r_st (st' := [.int (nI (stW s e p))]) (rfl) ?_
  exact r_iret C A TY d_X2_withToken_17 rfl (by decide) (by decide) (⟨rfl, rfl⟩)
