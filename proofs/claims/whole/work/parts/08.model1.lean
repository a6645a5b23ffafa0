theorem tw_5 : (Jvm.Cond.initialized "CorpuslineModel") ∈ TB := tb_of 5 (by decide +kernel) rfl
theorem tw_661 : (Jvm.Cond.fieldLink "CorpuslineModel" (72 : Nat) "CorpuslineModel" "thrown" "I") ∈ TB := tb_of 661 (by decide +kernel) rfl
theorem tw_663 : (Jvm.Cond.fieldLink "CorpuslineModel" (13 : Nat) "CorpuslineModel" "attributes" "[I") ∈ TB := tb_of 663 (by decide +kernel) rfl
theorem tw_669 : (Jvm.Cond.fieldLink "CorpuslineModel" (33 : Nat) "CorpuslineModel" "tests" "[I") ∈ TB := tb_of 669 (by decide +kernel) rfl
theorem tw_677 : (Jvm.Cond.fieldLink "CorpuslineModel" (98 : Nat) "CorpuslineModel" "pile" "I") ∈ TB := tb_of 677 (by decide +kernel) rfl
theorem tw_682 : (Jvm.Cond.fieldLink "CorpuslineModel" (66 : Nat) "CorpuslineModel" "lengths" "[I") ∈ TB := tb_of 682 (by decide +kernel) rfl
theorem tw_740 : (Jvm.Cond.methodLink "CorpuslineModel" (76 : Nat) ({ cls := "CorpuslineModel", name := "isIn", desc := "(III)Z" } : Jvm.MethodName)) ∈ TB := tb_of 740 (by decide +kernel) rfl
theorem tw_741 : (Jvm.Cond.static ({ cls := "CorpuslineModel", name := "isIn", desc := "(III)Z" } : Jvm.MethodName)) ∈ TB := tb_of 741 (by decide +kernel) rfl
theorem tw_742 : (Jvm.Cond.code ({ cls := "CorpuslineModel", name := "isIn", desc := "(III)Z" } : Jvm.MethodName) prog_9_method_4_code (3 : Nat) (Option.some Jvm.ClassFile.FieldType.boolean)) ∈ TB := tb_of 742 (by decide +kernel) rfl
theorem tw_879 : (Jvm.Cond.methodLink "CorpuslineModel" (137 : Nat) ({ cls := "CorpuslineModel", name := "bits", desc := "(I)I" } : Jvm.MethodName)) ∈ TB := tb_of 879 (by decide +kernel) rfl
theorem tw_880 : (Jvm.Cond.static ({ cls := "CorpuslineModel", name := "bits", desc := "(I)I" } : Jvm.MethodName)) ∈ TB := tb_of 880 (by decide +kernel) rfl
theorem tw_881 : (Jvm.Cond.code ({ cls := "CorpuslineModel", name := "bits", desc := "(I)I" } : Jvm.MethodName) prog_9_method_38_code (3 : Nat) (Option.some Jvm.ClassFile.FieldType.int)) ∈ TB := tb_of 881 (by decide +kernel) rfl
theorem cw_0 : ∀ w ∈ u_ws RX0 TX0 7, w ∈ TB := fun w hw => List.mem_filter.mpr ⟨(show ∀ w ∈ u_ws RX0 TX0 7, w ∈ lw_tbl from by decide +kernel) w hw, (show ∀ w ∈ u_ws RX0 TX0 7, goodWord w = true from by decide +kernel) w hw⟩
theorem cw_1 : ∀ w ∈ u_ws RX1 TX1 3, w ∈ TB := fun w hw => List.mem_filter.mpr ⟨(show ∀ w ∈ u_ws RX1 TX1 3, w ∈ lw_tbl from by decide +kernel) w hw, (show ∀ w ∈ u_ws RX1 TX1 3, goodWord w = true from by decide +kernel) w hw⟩
theorem cw_2 : ∀ w ∈ u_ws RX3 TX3 7, w ∈ TB := fun w hw => List.mem_filter.mpr ⟨(show ∀ w ∈ u_ws RX3 TX3 7, w ∈ lw_tbl from by decide +kernel) w hw, (show ∀ w ∈ u_ws RX3 TX3 7, goodWord w = true from by decide +kernel) w hw⟩
theorem cw_3 : ∀ w ∈ u_ws RX4 TX4 3, w ∈ TB := fun w hw => List.mem_filter.mpr ⟨(show ∀ w ∈ u_ws RX4 TX4 3, w ∈ lw_tbl from by decide +kernel) w hw, (show ∀ w ∈ u_ws RX4 TX4 3, goodWord w = true from by decide +kernel) w hw⟩
theorem cw_4 : ∀ w ∈ u_ws RX5 TX5 3, w ∈ TB := fun w hw => List.mem_filter.mpr ⟨(show ∀ w ∈ u_ws RX5 TX5 3, w ∈ lw_tbl from by decide +kernel) w hw, (show ∀ w ∈ u_ws RX5 TX5 3, goodWord w = true from by decide +kernel) w hw⟩
theorem cw_5 : ∀ w ∈ u_ws RX6 TX6 9, w ∈ TB := fun w hw => List.mem_filter.mpr ⟨(show ∀ w ∈ u_ws RX6 TX6 9, w ∈ lw_tbl from by decide +kernel) w hw, (show ∀ w ∈ u_ws RX6 TX6 9, goodWord w = true from by decide +kernel) w hw⟩
theorem cw_6 : ∀ w ∈ u_ws RX7 TX7 23, w ∈ TB := fun w hw => List.mem_filter.mpr ⟨(show ∀ w ∈ u_ws RX7 TX7 23, w ∈ lw_tbl from by decide +kernel) w hw, (show ∀ w ∈ u_ws RX7 TX7 23, goodWord w = true from by decide +kernel) w hw⟩
theorem fd_RX7_13 : fdOk RX7 13 6 2 := ⟨_, _, _, rfl, by decide, cw_6, tw_663, rfl⟩
theorem fd_RX7_33 : fdOk RX7 33 6 8 := ⟨_, _, _, rfl, by decide, cw_6, tw_669, rfl⟩
theorem fd_RX7_66 : fdOk RX7 66 6 21 := ⟨_, _, _, rfl, by decide, cw_6, tw_682, rfl⟩
theorem fd_RX7_72 : fdOk RX7 72 6 0 := ⟨_, _, _, rfl, by decide, cw_6, tw_661, rfl⟩
theorem fd_RX7_98 : fdOk RX7 98 6 16 := ⟨_, _, _, rfl, by decide, cw_6, tw_677, rfl⟩
theorem pf_RX7_72 : pfOk RX7 72 6 0 .int false := ⟨_, _, _, tyX7, rfl, by decide, cw_6, tw_661, rfl, tyX7_ok, nmX7, rfl, by decide +kernel⟩
theorem ok_RX7_76 : okS RX7 76 yX7_isIn cX7_isIn 3 (Option.some Jvm.ClassFile.FieldType.boolean) 3 := ⟨tw_740, tw_741, tw_5, tw_742, ⟨by decide, by decide, by decide +kernel⟩⟩
theorem ok_RX7_137 : okS RX7 137 yX7_bits cX7_bits 3 (Option.some Jvm.ClassFile.FieldType.int) 1 := ⟨tw_879, tw_880, tw_5, tw_881, ⟨by decide, by decide, by decide +kernel⟩⟩
def dl_X7_isIn : List (Nat × Instr × Nat) := [(0, .iload_n 0, 1), (1, .iload_n 1, 1), (2, .if_icmp .lt 12, 3), (5, .iload_n 0, 1), (6, .iload_n 2, 1), (7, .if_icmp .gt 7, 3), (10, .iconst 1, 1), (11, .goto 4, 3), (14, .iconst 0, 1), (15, .ireturn, 1)]
theorem dc_X7_isIn : dnL cX7_isIn dl_X7_isIn = true := by decide +kernel
theorem d_X7_isIn_0 : dn cX7_isIn 0 (.iload_n 0) 1 1 := dnAt dc_X7_isIn 0 rfl rfl
theorem d_X7_isIn_1 : dn cX7_isIn 1 (.iload_n 1) 1 2 := dnAt dc_X7_isIn 1 rfl rfl
theorem d_X7_isIn_2 : dn cX7_isIn 2 (.if_icmp .lt 12) 3 5 := dnAt dc_X7_isIn 2 rfl rfl
theorem d_X7_isIn_5 : dn cX7_isIn 5 (.iload_n 0) 1 6 := dnAt dc_X7_isIn 3 rfl rfl
theorem d_X7_isIn_6 : dn cX7_isIn 6 (.iload_n 2) 1 7 := dnAt dc_X7_isIn 4 rfl rfl
theorem d_X7_isIn_7 : dn cX7_isIn 7 (.if_icmp .gt 7) 3 10 := dnAt dc_X7_isIn 5 rfl rfl
theorem d_X7_isIn_10 : dn cX7_isIn 10 (.iconst 1) 1 11 := dnAt dc_X7_isIn 6 rfl rfl
theorem d_X7_isIn_11 : dn cX7_isIn 11 (.goto 4) 3 14 := dnAt dc_X7_isIn 7 rfl rfl
theorem d_X7_isIn_14 : dn cX7_isIn 14 (.iconst 0) 1 15 := dnAt dc_X7_isIn 8 rfl rfl
theorem d_X7_isIn_15 : dn cX7_isIn 15 (.ireturn) 1 16 := dnAt dc_X7_isIn 9 rfl rfl
set_option maxHeartbeats 4000000 in
set_option maxRecDepth 100000 in
theorem s_isIn (v a b : Int32) : sC yX7_isIn cX7_isIn 3 (Option.some Jvm.ClassFile.FieldType.boolean) { frames := 0, cells := 0, slots := 0, locals := 0 } [.int v, .int a, .int b] (some (.int (bI (inI v a b)))) := by
  refine sC.of (by decide) (Nat.le_of_ble_eq_true rfl) ?_
  intro G x h C A TY
  show VV G x 0 0 h 0 [(0, .int v), (1, .int a), (2, .int b)] []
  refine r_iload_n C d_X7_isIn_0 0 rfl ?_
  refine r_iload_n C d_X7_isIn_1 1 rfl ?_
  refine r_icmp_lt C d_X7_isIn_2 (tgt := 14) rfl (fun c_2 => ?_) (fun c_2 => ?_)
  · skip
    refine r_iconst C d_X7_isIn_14 (v := (bI false)) rfl ?_
    refine r_st (st' := [.int (bI (inI v a b))]) (congrArg (fun z => [Value.int (bI z)]) (by first | exact (inI_T c_2 c_7).symm | exact (inI_F (Or.inl c_2)).symm | exact (inI_F (Or.inr c_7)).symm)) ?_
    exact r_iret C A TY d_X7_isIn_15 (bI_nar _) (by decide) (by decide) (⟨rfl, rfl⟩)
  · skip
    refine r_iload_n C d_X7_isIn_5 0 rfl ?_
    refine r_iload_n C d_X7_isIn_6 2 rfl ?_
    refine r_icmp_gt C d_X7_isIn_7 (tgt := 14) rfl (fun c_7 => ?_) (fun c_7 => ?_)
    · skip
      refine r_iconst C d_X7_isIn_14 (v := (bI false)) rfl ?_
      refine r_st (st' := [.int (bI (inI v a b))]) (congrArg (fun z => [Value.int (bI z)]) (by first | exact (inI_T c_2 c_7).symm | exact (inI_F (Or.inl c_2)).symm | exact (inI_F (Or.inr c_7)).symm)) ?_
      exact r_iret C A TY d_X7_isIn_15 (bI_nar _) (by decide) (by decide) (⟨rfl, rfl⟩)
    · skip
      refine r_iconst C d_X7_isIn_10 (v := (bI true)) rfl ?_
      refine r_goto C d_X7_isIn_11 (tgt := 15) rfl ?_
      refine r_st (st' := [.int (bI (inI v a b))]) (congrArg (fun z => [Value.int (bI z)]) (by first | exact (inI_T c_2 c_7).symm | exact (inI_F (Or.inl c_2)).symm | exact (inI_F (Or.inr c_7)).symm)) ?_
      exact r_iret C A TY d_X7_isIn_15 (bI_nar _) (by decide) (by decide) (⟨rfl, rfl⟩)
def dl_X7_isSide : List (Nat × Instr × Nat) := [(0, .iload_n 0, 1), (1, .iconst 0, 1), (2, .iconst 1, 1), (3, .invokestatic 76, 3), (6, .ireturn, 1)]
theorem dc_X7_isSide : dnL cX7_isSide dl_X7_isSide = true := by decide +kernel
theorem d_X7_isSide_0 : dn cX7_isSide 0 (.iload_n 0) 1 1 := dnAt dc_X7_isSide 0 rfl rfl
theorem d_X7_isSide_1 : dn cX7_isSide 1 (.iconst 0) 1 2 := dnAt dc_X7_isSide 1 rfl rfl
theorem d_X7_isSide_2 : dn cX7_isSide 2 (.iconst 1) 1 3 := dnAt dc_X7_isSide 2 rfl rfl
theorem d_X7_isSide_3 : dn cX7_isSide 3 (.invokestatic 76) 3 6 := dnAt dc_X7_isSide 3 rfl rfl
theorem d_X7_isSide_6 : dn cX7_isSide 6 (.ireturn) 1 7 := dnAt dc_X7_isSide 4 rfl rfl
set_option maxHeartbeats 4000000 in
set_option maxRecDepth 100000 in
theorem s_isSide (v : Int32) : sC yX7_isSide cX7_isSide 1 (Option.some Jvm.ClassFile.FieldType.boolean) { frames := 1, cells := 0, slots := 0, locals := 22 } [.int v] (some (.int (bI (inR v 0 1)))) := by
  refine sC.of (by decide) (Nat.le_of_ble_eq_true rfl) ?_
  intro G x h C A TY
  show VV G x 0 0 h 0 [(0, .int v)] []
  refine r_iload_n C d_X7_isSide_0 0 rfl ?_
  refine r_iconst C d_X7_isSide_1 (v := (nI 0)) rfl ?_
  refine r_iconst C d_X7_isSide_2 (v := (nI 1)) rfl ?_
  refine r_callS C d_X7_isSide_3 ok_RX7_76 (fun l _ => s_isIn v ((nI 0)) ((nI 1)) l G h) (rest := []) rfl rfl (Nat.le_of_ble_eq_true rfl) ⟨⟨by decide, by decide⟩, by decide, by decide⟩ (fun v9 h9 e9 => ?_)
  obtain ⟨rfl, e9⟩ := e9
  refine r_eqh e9 ?_
  show VV G x 0 0 h 6 [(0, .int v)] [.int (bI (inR v 0 1))]
  exact r_iret C A TY d_X7_isSide_6 (bI_nar _) (by decide) (by decide) (⟨rfl, rfl⟩)
def dl_X7_isAttribute : List (Nat × Instr × Nat) := [(0, .iload_n 0, 1), (1, .iconst 0, 1), (2, .iconst 2, 1), (3, .invokestatic 76, 3), (6, .ireturn, 1)]
theorem dc_X7_isAttribute : dnL cX7_isAttribute dl_X7_isAttribute = true := by decide +kernel
theorem d_X7_isAttribute_0 : dn cX7_isAttribute 0 (.iload_n 0) 1 1 := dnAt dc_X7_isAttribute 0 rfl rfl
theorem d_X7_isAttribute_1 : dn cX7_isAttribute 1 (.iconst 0) 1 2 := dnAt dc_X7_isAttribute 1 rfl rfl
theorem d_X7_isAttribute_2 : dn cX7_isAttribute 2 (.iconst 2) 1 3 := dnAt dc_X7_isAttribute 2 rfl rfl
theorem d_X7_isAttribute_3 : dn cX7_isAttribute 3 (.invokestatic 76) 3 6 := dnAt dc_X7_isAttribute 3 rfl rfl
theorem d_X7_isAttribute_6 : dn cX7_isAttribute 6 (.ireturn) 1 7 := dnAt dc_X7_isAttribute 4 rfl rfl
set_option maxHeartbeats 4000000 in
set_option maxRecDepth 100000 in
theorem s_isAttribute (v : Int32) : sC yX7_isAttribute cX7_isAttribute 1 (Option.some Jvm.ClassFile.FieldType.boolean) { frames := 1, cells := 0, slots := 0, locals := 22 } [.int v] (some (.int (bI (inR v 0 2)))) := by
  refine sC.of (by decide) (Nat.le_of_ble_eq_true rfl) ?_
  intro G x h C A TY
  show VV G x 0 0 h 0 [(0, .int v)] []
  refine r_iload_n C d_X7_isAttribute_0 0 rfl ?_
  refine r_iconst C d_X7_isAttribute_1 (v := (nI 0)) rfl ?_
  refine r_iconst C d_X7_isAttribute_2 (v := (nI 2)) rfl ?_
  refine r_callS C d_X7_isAttribute_3 ok_RX7_76 (fun l _ => s_isIn v ((nI 0)) ((nI 2)) l G h) (rest := []) rfl rfl (Nat.le_of_ble_eq_true rfl) ⟨⟨by decide, by decide⟩, by decide, by decide⟩ (fun v9 h9 e9 => ?_)
  obtain ⟨rfl, e9⟩ := e9
  refine r_eqh e9 ?_
  show VV G x 0 0 h 6 [(0, .int v)] [.int (bI (inR v 0 2))]
  exact r_iret C A TY d_X7_isAttribute_6 (bI_nar _) (by decide) (by decide) (⟨rfl, rfl⟩)
def dl_X7_isLabel : List (Nat × Instr × Nat) := [(0, .iload_n 0, 1), (1, .iconst 0, 1), (2, .iconst 2, 1), (3, .invokestatic 76, 3), (6, .ireturn, 1)]
theorem dc_X7_isLabel : dnL cX7_isLabel dl_X7_isLabel = true := by decide +kernel
theorem d_X7_isLabel_0 : dn cX7_isLabel 0 (.iload_n 0) 1 1 := dnAt dc_X7_isLabel 0 rfl rfl
theorem d_X7_isLabel_1 : dn cX7_isLabel 1 (.iconst 0) 1 2 := dnAt dc_X7_isLabel 1 rfl rfl
theorem d_X7_isLabel_2 : dn cX7_isLabel 2 (.iconst 2) 1 3 := dnAt dc_X7_isLabel 2 rfl rfl
theorem d_X7_isLabel_3 : dn cX7_isLabel 3 (.invokestatic 76) 3 6 := dnAt dc_X7_isLabel 3 rfl rfl
theorem d_X7_isLabel_6 : dn cX7_isLabel 6 (.ireturn) 1 7 := dnAt dc_X7_isLabel 4 rfl rfl
set_option maxHeartbeats 4000000 in
set_option maxRecDepth 100000 in
theorem s_isLabel (v : Int32) : sC yX7_isLabel cX7_isLabel 1 (Option.some Jvm.ClassFile.FieldType.boolean) { frames := 1, cells := 0, slots := 0, locals := 22 } [.int v] (some (.int (bI (inR v 0 2)))) := by
  refine sC.of (by decide) (Nat.le_of_ble_eq_true rfl) ?_
  intro G x h C A TY
  show VV G x 0 0 h 0 [(0, .int v)] []
  refine r_iload_n C d_X7_isLabel_0 0 rfl ?_
  refine r_iconst C d_X7_isLabel_1 (v := (nI 0)) rfl ?_
  refine r_iconst C d_X7_isLabel_2 (v := (nI 2)) rfl ?_
  refine r_callS C d_X7_isLabel_3 ok_RX7_76 (fun l _ => s_isIn v ((nI 0)) ((nI 2)) l G h) (rest := []) rfl rfl (Nat.le_of_ble_eq_true rfl) ⟨⟨by decide, by decide⟩, by decide, by decide⟩ (fun v9 h9 e9 => ?_)
  obtain ⟨rfl, e9⟩ := e9
  refine r_eqh e9 ?_
  show VV G x 0 0 h 6 [(0, .int v)] [.int (bI (inR v 0 2))]
  exact r_iret C A TY d_X7_isLabel_6 (bI_nar _) (by decide) (by decide) (⟨rfl, rfl⟩)
def dl_X7_isBound : List (Nat × Instr × Nat) := [(0, .iload_n 0, 1), (1, .iconst 0, 1), (2, .iconst 2, 1), (3, .invokestatic 76, 3), (6, .ireturn, 1)]
theorem dc_X7_isBound : dnL cX7_isBound dl_X7_isBound = true := by decide +kernel
theorem d_X7_isBound_0 : dn cX7_isBound 0 (.iload_n 0) 1 1 := dnAt dc_X7_isBound 0 rfl rfl
theorem d_X7_isBound_1 : dn cX7_isBound 1 (.iconst 0) 1 2 := dnAt dc_X7_isBound 1 rfl rfl
theorem d_X7_isBound_2 : dn cX7_isBound 2 (.iconst 2) 1 3 := dnAt dc_X7_isBound 2 rfl rfl
theorem d_X7_isBound_3 : dn cX7_isBound 3 (.invokestatic 76) 3 6 := dnAt dc_X7_isBound 3 rfl rfl
theorem d_X7_isBound_6 : dn cX7_isBound 6 (.ireturn) 1 7 := dnAt dc_X7_isBound 4 rfl rfl
set_option maxHeartbeats 4000000 in
set_option maxRecDepth 100000 in
theorem s_isBound (v : Int32) : sC yX7_isBound cX7_isBound 1 (Option.some Jvm.ClassFile.FieldType.boolean) { frames := 1, cells := 0, slots := 0, locals := 22 } [.int v] (some (.int (bI (inR v 0 2)))) := by
  refine sC.of (by decide) (Nat.le_of_ble_eq_true rfl) ?_
  intro G x h C A TY
  show VV G x 0 0 h 0 [(0, .int v)] []
  refine r_iload_n C d_X7_isBound_0 0 rfl ?_
  refine r_iconst C d_X7_isBound_1 (v := (nI 0)) rfl ?_
  refine r_iconst C d_X7_isBound_2 (v := (nI 2)) rfl ?_
  refine r_callS C d_X7_isBound_3 ok_RX7_76 (fun l _ => s_isIn v ((nI 0)) ((nI 2)) l G h) (rest := []) rfl rfl (Nat.le_of_ble_eq_true rfl) ⟨⟨by decide, by decide⟩, by decide, by decide⟩ (fun v9 h9 e9 => ?_)
  obtain ⟨rfl, e9⟩ := e9
  refine r_eqh e9 ?_
  show VV G x 0 0 h 6 [(0, .int v)] [.int (bI (inR v 0 2))]
  exact r_iret C A TY d_X7_isBound_6 (bI_nar _) (by decide) (by decide) (⟨rfl, rfl⟩)
def dl_X7_holds : List (Nat × Instr × Nat) := [(0, .aload_n 0, 1), (1, .iload_n 1, 1), (2, .putfield 72, 3), (5, .iload_n 1, 1), (6, .ifCond .ne 7, 3), (9, .iconst 1, 1), (10, .goto 4, 3), (13, .iconst 0, 1), (14, .ireturn, 1)]
theorem dc_X7_holds : dnL cX7_holds dl_X7_holds = true := by decide +kernel
theorem d_X7_holds_0 : dn cX7_holds 0 (.aload_n 0) 1 1 := dnAt dc_X7_holds 0 rfl rfl
theorem d_X7_holds_1 : dn cX7_holds 1 (.iload_n 1) 1 2 := dnAt dc_X7_holds 1 rfl rfl
theorem d_X7_holds_2 : dn cX7_holds 2 (.putfield 72) 3 5 := dnAt dc_X7_holds 2 rfl rfl
theorem d_X7_holds_5 : dn cX7_holds 5 (.iload_n 1) 1 6 := dnAt dc_X7_holds 3 rfl rfl
theorem d_X7_holds_6 : dn cX7_holds 6 (.ifCond .ne 7) 3 9 := dnAt dc_X7_holds 4 rfl rfl
theorem d_X7_holds_9 : dn cX7_holds 9 (.iconst 1) 1 10 := dnAt dc_X7_holds 5 rfl rfl
theorem d_X7_holds_10 : dn cX7_holds 10 (.goto 4) 3 13 := dnAt dc_X7_holds 6 rfl rfl
theorem d_X7_holds_13 : dn cX7_holds 13 (.iconst 0) 1 14 := dnAt dc_X7_holds 7 rfl rfl
theorem d_X7_holds_14 : dn cX7_holds 14 (.ireturn) 1 15 := dnAt dc_X7_holds 8 rfl rfl
set_option maxHeartbeats 4000000 in
set_option maxRecDepth 100000 in
theorem m_holds (S : mS) (p : Nat) (hp : p < 2147483648) : mC yX7_holds cX7_holds 2 (Option.some Jvm.ClassFile.FieldType.boolean) { frames := 0, cells := 0, slots := 0, locals := 0 } [.int (nI p)] S (fun v9 T9 => v9 = (some (.int (bI (decide (p = 0))))) ∧ T9 = uK S 0 p) := by
  refine mC.of (by decide) (Nat.le_of_ble_eq_true rfl) ?_
  intro G x q h0 C A TY
  show VM G x q h0 S 0 [(0, .ref (q 0)), (1, .int (nI p))] []
  refine m_aload_n C d_X7_holds_0 0 rfl ?_
  refine m_iload_n C d_X7_holds_1 1 rfl ?_
  refine m_putK C d_X7_holds_2 pf_RX7_72 (by decide) (fun _ _ => rfl) ?_
  refine m_iload_n C d_X7_holds_5 1 rfl ?_
  refine mn_if_ne C d_X7_holds_6 (tgt := 13) rfl (by omega) (fun c_6 => ?_) (fun c_6 => ?_)
  · skip
    refine m_iconst C d_X7_holds_13 (v := (bI false)) rfl ?_
    refine m_st (st' := [.int (bI (decide (p = 0)))]) (congrArg (fun z => [Value.int (bI z)]) (by simp; omega)) ?_
    exact m_iret C A TY d_X7_holds_14 (bI_nar _) (⟨rfl, rfl⟩)
  · skip
    refine m_iconst C d_X7_holds_9 (v := (bI true)) rfl ?_
    refine m_goto C d_X7_holds_10 (tgt := 14) rfl ?_
    refine m_st (st' := [.int (bI (decide (p = 0)))]) (congrArg (fun z => [Value.int (bI z)]) (by simp; omega)) ?_
    exact m_iret C A TY d_X7_holds_14 (bI_nar _) (⟨rfl, rfl⟩)
def dl_X7_thrown : List (Nat × Instr × Nat) := [(0, .aload_n 0, 1), (1, .getfield 72, 3), (4, .ireturn, 1)]
theorem dc_X7_thrown : dnL cX7_thrown dl_X7_thrown = true := by decide +kernel
theorem d_X7_thrown_0 : dn cX7_thrown 0 (.aload_n 0) 1 1 := dnAt dc_X7_thrown 0 rfl rfl
theorem d_X7_thrown_1 : dn cX7_thrown 1 (.getfield 72) 3 4 := dnAt dc_X7_thrown 1 rfl rfl
theorem d_X7_thrown_4 : dn cX7_thrown 4 (.ireturn) 1 5 := dnAt dc_X7_thrown 2 rfl rfl
set_option maxHeartbeats 4000000 in
set_option maxRecDepth 100000 in
theorem m_thrown (S : mS) : mC yX7_thrown cX7_thrown 1 (Option.some Jvm.ClassFile.FieldType.int) { frames := 0, cells := 0, slots := 0, locals := 0 } [] S (fun v9 T9 => v9 = (some (.int (nI (mK S 0)))) ∧ T9 = S) := by
  refine mC.of (by decide) (Nat.le_of_ble_eq_true rfl) ?_
  intro G x q h0 C A TY
  show VM G x q h0 S 0 [(0, .ref (q 0))] []
  refine m_aload_n C d_X7_thrown_0 0 rfl ?_
  refine m_get C d_X7_thrown_1 fd_RX7_72 (v := .int (nI (mK S 0))) rfl ?_
  exact m_iret C A TY d_X7_thrown_4 rfl (⟨rfl, rfl⟩)
def mVal (S : mS) (s p a : Nat) : Nat := mN S 2 (3 * (40 * s + p) + a)
def dl_X7_valueOf : List (Nat × Instr × Nat) := [(0, .aload_n 0, 1), (1, .getfield 13, 3), (4, .iconst 3, 1), (5, .bipush 40, 2), (7, .iload_n 1, 1), (8, .imul, 1), (9, .iload_n 2, 1), (10, .iadd, 1), (11, .imul, 1), (12, .iload_n 3, 1), (13, .iadd, 1), (14, .iaload, 1), (15, .ireturn, 1)]
theorem dc_X7_valueOf : dnL cX7_valueOf dl_X7_valueOf = true := by decide +kernel
theorem d_X7_valueOf_0 : dn cX7_valueOf 0 (.aload_n 0) 1 1 := dnAt dc_X7_valueOf 0 rfl rfl
theorem d_X7_valueOf_1 : dn cX7_valueOf 1 (.getfield 13) 3 4 := dnAt dc_X7_valueOf 1 rfl rfl
theorem d_X7_valueOf_4 : dn cX7_valueOf 4 (.iconst 3) 1 5 := dnAt dc_X7_valueOf 2 rfl rfl
theorem d_X7_valueOf_5 : dn cX7_valueOf 5 (.bipush 40) 2 7 := dnAt dc_X7_valueOf 3 rfl rfl
theorem d_X7_valueOf_7 : dn cX7_valueOf 7 (.iload_n 1) 1 8 := dnAt dc_X7_valueOf 4 rfl rfl
theorem d_X7_valueOf_8 : dn cX7_valueOf 8 (.imul) 1 9 := dnAt dc_X7_valueOf 5 rfl rfl
theorem d_X7_valueOf_9 : dn cX7_valueOf 9 (.iload_n 2) 1 10 := dnAt dc_X7_valueOf 6 rfl rfl
theorem d_X7_valueOf_10 : dn cX7_valueOf 10 (.iadd) 1 11 := dnAt dc_X7_valueOf 7 rfl rfl
theorem d_X7_valueOf_11 : dn cX7_valueOf 11 (.imul) 1 12 := dnAt dc_X7_valueOf 8 rfl rfl
theorem d_X7_valueOf_12 : dn cX7_valueOf 12 (.iload_n 3) 1 13 := dnAt dc_X7_valueOf 9 rfl rfl
theorem d_X7_valueOf_13 : dn cX7_valueOf 13 (.iadd) 1 14 := dnAt dc_X7_valueOf 10 rfl rfl
theorem d_X7_valueOf_14 : dn cX7_valueOf 14 (.iaload) 1 15 := dnAt dc_X7_valueOf 11 rfl rfl
theorem d_X7_valueOf_15 : dn cX7_valueOf 15 (.ireturn) 1 16 := dnAt dc_X7_valueOf 12 rfl rfl
set_option maxHeartbeats 4000000 in
set_option maxRecDepth 100000 in
theorem m_valueOf (S : mS) (s p a : Nat) (hs : s < 2) (hp : p < 40) (ha : a < 3) : mC yX7_valueOf cX7_valueOf 4 (Option.some Jvm.ClassFile.FieldType.int) { frames := 0, cells := 0, slots := 0, locals := 0 } [.int (nI s), .int (nI p), .int (nI a)] S (fun v9 T9 => v9 = (some (.int (nI (mVal S s p a)))) ∧ T9 = S) := by
  refine mC.of (by decide) (Nat.le_of_ble_eq_true rfl) ?_
  intro G x q h0 C A TY
  show VM G x q h0 S 0 [(0, .ref (q 0)), (1, .int (nI s)), (2, .int (nI p)), (3, .int (nI a))] []
  refine m_aload_n C d_X7_valueOf_0 0 rfl ?_
  refine m_get C d_X7_valueOf_1 fd_RX7_13 (v := .ref (q 2)) rfl ?_
  refine m_iconst C d_X7_valueOf_4 (v := (nI 3)) rfl ?_
  refine m_bipush C d_X7_valueOf_5 (v := (nI 40)) rfl ?_
  refine m_iload_n C d_X7_valueOf_7 1 rfl ?_
  refine mn_imul C d_X7_valueOf_8 ?_
  refine m_iload_n C d_X7_valueOf_9 2 rfl ?_
  refine mn_iadd C d_X7_valueOf_10 ?_
  refine mn_imul C d_X7_valueOf_11 ?_
  refine m_iload_n C d_X7_valueOf_12 3 rfl ?_
  refine mn_iadd C d_X7_valueOf_13 ?_
  refine m_ald C d_X7_valueOf_14 (k := 2) (by decide) rfl (by show _ < 240; omega) (by decide) ?_
  refine m_st (st' := [.int (nI (mVal S s p a))]) (rfl) ?_
  exact m_iret C A TY d_X7_valueOf_15 rfl (⟨rfl, rfl⟩)
def sumTo (f : Nat → Nat) : Nat → Nat
  | 0 => 0
  | k + 1 => sumTo f k + f k
theorem sumTo_le {f : Nat → Nat} {c : Nat} : ∀ {k : Nat}, (∀ j, j < k → f j ≤ c) → sumTo f k ≤ k * c
  | 0, _ => Nat.zero_le _
  | k + 1, h => by
    have h1 := sumTo_le (k := k) (fun j hj => h j (Nat.lt_succ_of_lt hj))
    have h2 := h k (Nat.lt_succ_self k)
    rw [sumTo, Nat.succ_mul]
    omega
def mTests (S : mS) : Nat := sumTo (fun k => mN S 8 (12 + k)) (mK S 16)
def bits8 (v : Nat) : Nat := sumTo (fun k => v / 2 ^ (k + 1) % 2) 8
theorem and1 (x : Nat) : x &&& 1 = x % 2 := Nat.and_one_is_mod x
def mSize (S : mS) (r : Nat) : Nat := sumTo (fun k => bits8 (mN S 21 (40 * r + k))) 40

def dl_X7_testsInAll : List (Nat × Instr × Nat) := [(0, .iconst 0, 1), (1, .istore_n 1, 1), (2, .iconst 0, 1), (3, .istore_n 2, 1), (4, .iload_n 2, 1), (5, .aload_n 0, 1), (6, .getfield 98, 3), (9, .if_icmp .ge 21, 3), (12, .iload_n 1, 1), (13, .aload_n 0, 1), (14, .getfield 33, 3), (17, .bipush 12, 2), (19, .iload_n 2, 1), (20, .iadd, 1), (21, .iaload, 1), (22, .iadd, 1), (23, .istore_n 1, 1), (24, .iinc 2 1, 3), (27, .goto (-23), 3), (30, .iload_n 1, 1), (31, .ireturn, 1)]
theorem dc_X7_testsInAll : dnL cX7_testsInAll dl_X7_testsInAll = true := by decide +kernel
theorem d_X7_testsInAll_0 : dn cX7_testsInAll 0 (.iconst 0) 1 1 := dnAt dc_X7_testsInAll 0 rfl rfl
theorem d_X7_testsInAll_1 : dn cX7_testsInAll 1 (.istore_n 1) 1 2 := dnAt dc_X7_testsInAll 1 rfl rfl
theorem d_X7_testsInAll_2 : dn cX7_testsInAll 2 (.iconst 0) 1 3 := dnAt dc_X7_testsInAll 2 rfl rfl
theorem d_X7_testsInAll_3 : dn cX7_testsInAll 3 (.istore_n 2) 1 4 := dnAt dc_X7_testsInAll 3 rfl rfl
theorem d_X7_testsInAll_4 : dn cX7_testsInAll 4 (.iload_n 2) 1 5 := dnAt dc_X7_testsInAll 4 rfl rfl
theorem d_X7_testsInAll_5 : dn cX7_testsInAll 5 (.aload_n 0) 1 6 := dnAt dc_X7_testsInAll 5 rfl rfl
theorem d_X7_testsInAll_6 : dn cX7_testsInAll 6 (.getfield 98) 3 9 := dnAt dc_X7_testsInAll 6 rfl rfl
theorem d_X7_testsInAll_9 : dn cX7_testsInAll 9 (.if_icmp .ge 21) 3 12 := dnAt dc_X7_testsInAll 7 rfl rfl
theorem d_X7_testsInAll_12 : dn cX7_testsInAll 12 (.iload_n 1) 1 13 := dnAt dc_X7_testsInAll 8 rfl rfl
theorem d_X7_testsInAll_13 : dn cX7_testsInAll 13 (.aload_n 0) 1 14 := dnAt dc_X7_testsInAll 9 rfl rfl
theorem d_X7_testsInAll_14 : dn cX7_testsInAll 14 (.getfield 33) 3 17 := dnAt dc_X7_testsInAll 10 rfl rfl
theorem d_X7_testsInAll_17 : dn cX7_testsInAll 17 (.bipush 12) 2 19 := dnAt dc_X7_testsInAll 11 rfl rfl
theorem d_X7_testsInAll_19 : dn cX7_testsInAll 19 (.iload_n 2) 1 20 := dnAt dc_X7_testsInAll 12 rfl rfl
theorem d_X7_testsInAll_20 : dn cX7_testsInAll 20 (.iadd) 1 21 := dnAt dc_X7_testsInAll 13 rfl rfl
theorem d_X7_testsInAll_21 : dn cX7_testsInAll 21 (.iaload) 1 22 := dnAt dc_X7_testsInAll 14 rfl rfl
theorem d_X7_testsInAll_22 : dn cX7_testsInAll 22 (.iadd) 1 23 := dnAt dc_X7_testsInAll 15 rfl rfl
theorem d_X7_testsInAll_23 : dn cX7_testsInAll 23 (.istore_n 1) 1 24 := dnAt dc_X7_testsInAll 16 rfl rfl
theorem d_X7_testsInAll_24 : dn cX7_testsInAll 24 (.iinc 2 1) 3 27 := dnAt dc_X7_testsInAll 17 rfl rfl
theorem d_X7_testsInAll_27 : dn cX7_testsInAll 27 (.goto (-23)) 3 30 := dnAt dc_X7_testsInAll 18 rfl rfl
theorem d_X7_testsInAll_30 : dn cX7_testsInAll 30 (.iload_n 1) 1 31 := dnAt dc_X7_testsInAll 19 rfl rfl
theorem d_X7_testsInAll_31 : dn cX7_testsInAll 31 (.ireturn) 1 32 := dnAt dc_X7_testsInAll 20 rfl rfl
set_option maxHeartbeats 4000000 in
set_option maxRecDepth 100000 in
theorem m_testsInAll (S : mS) (hp : mK S 16 ≤ 8) : mC yX7_testsInAll cX7_testsInAll 3 (Option.some Jvm.ClassFile.FieldType.int) { frames := 0, cells := 0, slots := 0, locals := 0 } [] S (fun v9 T9 => v9 = (some (.int (nI (mTests S)))) ∧ T9 = S) := by
  refine mC.of (by decide) (Nat.le_of_ble_eq_true rfl) ?_
  intro G x q h0 C A TY
  show VM G x q h0 S 0 [(0, .ref (q 0))] []
  refine m_iconst C d_X7_testsInAll_0 (v := (nI 0)) rfl ?_
  refine m_istore_n C d_X7_testsInAll_1 (lv' := [(1, .int (nI 0)), (0, .ref (q 0))]) (by decide) rfl ?_
  refine m_iconst C d_X7_testsInAll_2 (v := (nI 0)) rfl ?_
  refine m_istore_n C d_X7_testsInAll_3 (lv' := [(2, .int (nI 0)), (1, .int (nI 0)), (0, .ref (q 0))]) (by decide) rfl ?_
  have loop_4 : ∀ (fuel : Nat) (k : Nat), (k ≤ mK S 16) → (9 - k) < fuel → VM G x q h0 S 4 [(0, .ref (q 0)), (1, .int (nI (sumTo (fun k => mN S 8 (12 + k)) k))), (2, .int (nI k))] [] := by
    intro fuel
    induction fuel with
    | zero => intro k hk hf9; exact absurd hf9 (Nat.not_lt_zero _)
    | succ fuel ih_4 =>
      intro k hk hf9
      refine m_iload_n C d_X7_testsInAll_4 2 rfl ?_
      refine m_aload_n C d_X7_testsInAll_5 0 rfl ?_
      refine m_get C d_X7_testsInAll_6 fd_RX7_98 (v := .int (nI (mK S 16))) rfl ?_
      refine mn_icmp_ge C d_X7_testsInAll_9 (tgt := 30) rfl (by omega) (by omega) (fun c_9 => ?_) (fun c_9 => ?_)
      · skip
        have e9 : k = mK S 16 := by omega
        refine m_iload_n C d_X7_testsInAll_30 1 rfl ?_
        refine m_st (st' := [.int (nI (mTests S))]) (by rw [mTests, e9]) ?_
        exact m_iret C A TY d_X7_testsInAll_31 rfl (⟨rfl, rfl⟩)
      · skip
        refine m_iload_n C d_X7_testsInAll_12 1 rfl ?_
        refine m_aload_n C d_X7_testsInAll_13 0 rfl ?_
        refine m_get C d_X7_testsInAll_14 fd_RX7_33 (v := .ref (q 8)) rfl ?_
        refine m_bipush C d_X7_testsInAll_17 (v := (nI 12)) rfl ?_
        refine m_iload_n C d_X7_testsInAll_19 2 rfl ?_
        refine mn_iadd C d_X7_testsInAll_20 ?_
        refine m_ald C d_X7_testsInAll_21 (k := 8) (by decide) rfl (by show _ < 21; omega) (by decide) ?_
        refine mn_iadd C d_X7_testsInAll_22 ?_
        refine m_istore_n C d_X7_testsInAll_23 (lv' := [(1, .int (nI ((sumTo (fun k => mN S 8 (12 + k)) k) + (mN S 8 (12 + k))))), (0, .ref (q 0)), (2, .int (nI k))]) (by decide) rfl ?_
        refine mn_iinc C d_X7_testsInAll_24 (lv' := [(2, .int (nI (k + 1))), (1, .int (nI ((sumTo (fun k => mN S 8 (12 + k)) k) + (mN S 8 (12 + k))))), (0, .ref (q 0))]) 2 rfl (nI_inc _ rfl) (by decide) rfl ?_
        refine m_goto C d_X7_testsInAll_27 (tgt := 4) rfl ?_
        refine m_lv (lv' := [(0, .ref (q 0)), (1, .int (nI ((sumTo (fun k => mN S 8 (12 + k)) k) + (mN S 8 (12 + k))))), (2, .int (nI (k + 1)))]) [2, 1, 0] rfl ?_
        refine m_lve (lv' := [(0, .ref (q 0)), (1, .int (nI (sumTo (fun k => mN S 8 (12 + k)) (k + 1)))), (2, .int (nI (k + 1)))]) (rfl) ?_
        exact ih_4 (k + 1) (by omega) (by omega)
  refine m_lv (lv' := [(0, .ref (q 0)), (1, .int (nI 0)), (2, .int (nI 0))]) [2, 1, 0] rfl ?_
  refine m_lve (lv' := [(0, .ref (q 0)), (1, .int (nI (sumTo (fun k => mN S 8 (12 + k)) 0))), (2, .int (nI 0))]) (rfl) ?_
  exact loop_4 _ 0 (by omega) (Nat.lt_succ_self _)
def dl_X7_bits : List (Nat × Instr × Nat) := [(0, .iconst 0, 1), (1, .istore_n 1, 1), (2, .iconst 1, 1), (3, .istore_n 2, 1), (4, .iload_n 2, 1), (5, .bipush 8, 2), (7, .if_icmp .gt 17, 3), (10, .iload_n 1, 1), (11, .iload_n 0, 1), (12, .iload_n 2, 1), (13, .ishr, 1), (14, .iconst 1, 1), (15, .iand, 1), (16, .iadd, 1), (17, .istore_n 1, 1), (18, .iinc 2 1, 3), (21, .goto (-17), 3), (24, .iload_n 1, 1), (25, .ireturn, 1)]
theorem dc_X7_bits : dnL cX7_bits dl_X7_bits = true := by decide +kernel
theorem d_X7_bits_0 : dn cX7_bits 0 (.iconst 0) 1 1 := dnAt dc_X7_bits 0 rfl rfl
theorem d_X7_bits_1 : dn cX7_bits 1 (.istore_n 1) 1 2 := dnAt dc_X7_bits 1 rfl rfl
theorem d_X7_bits_2 : dn cX7_bits 2 (.iconst 1) 1 3 := dnAt dc_X7_bits 2 rfl rfl
theorem d_X7_bits_3 : dn cX7_bits 3 (.istore_n 2) 1 4 := dnAt dc_X7_bits 3 rfl rfl
theorem d_X7_bits_4 : dn cX7_bits 4 (.iload_n 2) 1 5 := dnAt dc_X7_bits 4 rfl rfl
theorem d_X7_bits_5 : dn cX7_bits 5 (.bipush 8) 2 7 := dnAt dc_X7_bits 5 rfl rfl
theorem d_X7_bits_7 : dn cX7_bits 7 (.if_icmp .gt 17) 3 10 := dnAt dc_X7_bits 6 rfl rfl
theorem d_X7_bits_10 : dn cX7_bits 10 (.iload_n 1) 1 11 := dnAt dc_X7_bits 7 rfl rfl
theorem d_X7_bits_11 : dn cX7_bits 11 (.iload_n 0) 1 12 := dnAt dc_X7_bits 8 rfl rfl
theorem d_X7_bits_12 : dn cX7_bits 12 (.iload_n 2) 1 13 := dnAt dc_X7_bits 9 rfl rfl
theorem d_X7_bits_13 : dn cX7_bits 13 (.ishr) 1 14 := dnAt dc_X7_bits 10 rfl rfl
theorem d_X7_bits_14 : dn cX7_bits 14 (.iconst 1) 1 15 := dnAt dc_X7_bits 11 rfl rfl
theorem d_X7_bits_15 : dn cX7_bits 15 (.iand) 1 16 := dnAt dc_X7_bits 12 rfl rfl
theorem d_X7_bits_16 : dn cX7_bits 16 (.iadd) 1 17 := dnAt dc_X7_bits 13 rfl rfl
theorem d_X7_bits_17 : dn cX7_bits 17 (.istore_n 1) 1 18 := dnAt dc_X7_bits 14 rfl rfl
theorem d_X7_bits_18 : dn cX7_bits 18 (.iinc 2 1) 3 21 := dnAt dc_X7_bits 15 rfl rfl
theorem d_X7_bits_21 : dn cX7_bits 21 (.goto (-17)) 3 24 := dnAt dc_X7_bits 16 rfl rfl
theorem d_X7_bits_24 : dn cX7_bits 24 (.iload_n 1) 1 25 := dnAt dc_X7_bits 17 rfl rfl
theorem d_X7_bits_25 : dn cX7_bits 25 (.ireturn) 1 26 := dnAt dc_X7_bits 18 rfl rfl
set_option maxHeartbeats 4000000 in
set_option maxRecDepth 100000 in
theorem s_bits (v : Nat) (hv : v < 2147483648) : sC yX7_bits cX7_bits 3 (Option.some Jvm.ClassFile.FieldType.int) { frames := 0, cells := 0, slots := 0, locals := 0 } [.int (nI v)] (some (.int (nI (bits8 v)))) := by
  refine sC.of (by decide) (Nat.le_of_ble_eq_true rfl) ?_
  intro G x h C A TY
  show VV G x 0 0 h 0 [(0, .int (nI v))] []
  refine r_iconst C d_X7_bits_0 (v := (nI 0)) rfl ?_
  refine r_istore_n C d_X7_bits_1 (lv' := [(1, .int (nI 0)), (0, .int (nI v))]) (by decide) rfl ?_
  refine r_iconst C d_X7_bits_2 (v := (nI 1)) rfl ?_
  refine r_istore_n C d_X7_bits_3 (lv' := [(2, .int (nI 1)), (1, .int (nI 0)), (0, .int (nI v))]) (by decide) rfl ?_
  have loop_4 : ∀ (fuel : Nat) (k : Nat), (1 ≤ k ∧ k ≤ 9) → (10 - k) < fuel → VV G x 0 0 h 4 [(0, .int (nI v)), (1, .int (nI (sumTo (fun k => v / 2 ^ (k + 1) % 2) (k - 1)))), (2, .int (nI k))] [] := by
    intro fuel
    induction fuel with
    | zero => intro k hk hf9; exact absurd hf9 (Nat.not_lt_zero _)
    | succ fuel ih_4 =>
      intro k hk hf9
      refine r_iload_n C d_X7_bits_4 2 rfl ?_
      refine r_bipush C d_X7_bits_5 (v := (nI 8)) rfl ?_
      refine rn_icmp_gt C d_X7_bits_7 (tgt := 24) rfl (by omega) (by omega) (fun c_7 => ?_) (fun c_7 => ?_)
      · skip
        have e9 : k = 9 := by omega
        subst e9
        refine r_iload_n C d_X7_bits_24 1 rfl ?_
        refine r_st (st' := [.int (nI (bits8 v))]) (rfl) ?_
        exact r_iret C A TY d_X7_bits_25 rfl (by decide) (by decide) (⟨rfl, rfl⟩)
      · skip
        refine r_iload_n C d_X7_bits_10 1 rfl ?_
        refine r_iload_n C d_X7_bits_11 0 rfl ?_
        refine r_iload_n C d_X7_bits_12 2 rfl ?_
        refine rn_ishr C d_X7_bits_13 (by omega) (by omega) ?_
        refine r_iconst C d_X7_bits_14 (v := (nI 1)) rfl ?_
        refine rn_iand C d_X7_bits_15 ?_
        refine rn_iadd C d_X7_bits_16 ?_
        refine r_istore_n C d_X7_bits_17 (lv' := [(1, .int (nI ((sumTo (fun k => v / 2 ^ (k + 1) % 2) (k - 1)) + ((v / 2 ^ k) &&& 1)))), (0, .int (nI v)), (2, .int (nI k))]) (by decide) rfl ?_
        refine rn_iinc C d_X7_bits_18 (lv' := [(2, .int (nI (k + 1))), (1, .int (nI ((sumTo (fun k => v / 2 ^ (k + 1) % 2) (k - 1)) + ((v / 2 ^ k) &&& 1)))), (0, .int (nI v))]) 2 rfl (nI_inc _ rfl) (by decide) rfl ?_
        refine r_goto C d_X7_bits_21 (tgt := 4) rfl ?_
        refine r_lv (lv' := [(0, .int (nI v)), (1, .int (nI ((sumTo (fun k => v / 2 ^ (k + 1) % 2) (k - 1)) + ((v / 2 ^ k) &&& 1)))), (2, .int (nI (k + 1)))]) [2, 1, 0] rfl ?_
        refine r_lve (lv' := [(0, .int (nI v)), (1, .int (nI (sumTo (fun k => v / 2 ^ (k + 1) % 2) (k + 1 - 1)))), (2, .int (nI (k + 1)))]) (by rw [show k + 1 - 1 = (k - 1) + 1 by omega, sumTo, and1, show k - 1 + 1 = k by omega]) ?_
        exact ih_4 (k + 1) (by omega) (by omega)
  refine r_lv (lv' := [(0, .int (nI v)), (1, .int (nI 0)), (2, .int (nI 1))]) [2, 1, 0] rfl ?_
  refine r_lve (lv' := [(0, .int (nI v)), (1, .int (nI (sumTo (fun k => v / 2 ^ (k + 1) % 2) (1 - 1)))), (2, .int (nI 1))]) (rfl) ?_
  exact loop_4 _ 1 (by omega) (Nat.lt_succ_self _)
def dl_X7_sizeOf : List (Nat × Instr × Nat) := [(0, .iconst 0, 1), (1, .istore_n 2, 1), (2, .iconst 0, 1), (3, .istore_n 3, 1), (4, .iload_n 3, 1), (5, .bipush 40, 2), (7, .if_icmp .ge 26, 3), (10, .iload_n 2, 1), (11, .aload_n 0, 1), (12, .getfield 66, 3), (15, .bipush 40, 2), (17, .iload_n 1, 1), (18, .imul, 1), (19, .iload_n 3, 1), (20, .iadd, 1), (21, .iaload, 1), (22, .invokestatic 137, 3), (25, .iadd, 1), (26, .istore_n 2, 1), (27, .iinc 3 1, 3), (30, .goto (-26), 3), (33, .iload_n 2, 1), (34, .ireturn, 1)]
theorem dc_X7_sizeOf : dnL cX7_sizeOf dl_X7_sizeOf = true := by decide +kernel
theorem d_X7_sizeOf_0 : dn cX7_sizeOf 0 (.iconst 0) 1 1 := dnAt dc_X7_sizeOf 0 rfl rfl
theorem d_X7_sizeOf_1 : dn cX7_sizeOf 1 (.istore_n 2) 1 2 := dnAt dc_X7_sizeOf 1 rfl rfl
theorem d_X7_sizeOf_2 : dn cX7_sizeOf 2 (.iconst 0) 1 3 := dnAt dc_X7_sizeOf 2 rfl rfl
theorem d_X7_sizeOf_3 : dn cX7_sizeOf 3 (.istore_n 3) 1 4 := dnAt dc_X7_sizeOf 3 rfl rfl
theorem d_X7_sizeOf_4 : dn cX7_sizeOf 4 (.iload_n 3) 1 5 := dnAt dc_X7_sizeOf 4 rfl rfl
theorem d_X7_sizeOf_5 : dn cX7_sizeOf 5 (.bipush 40) 2 7 := dnAt dc_X7_sizeOf 5 rfl rfl
theorem d_X7_sizeOf_7 : dn cX7_sizeOf 7 (.if_icmp .ge 26) 3 10 := dnAt dc_X7_sizeOf 6 rfl rfl
theorem d_X7_sizeOf_10 : dn cX7_sizeOf 10 (.iload_n 2) 1 11 := dnAt dc_X7_sizeOf 7 rfl rfl
theorem d_X7_sizeOf_11 : dn cX7_sizeOf 11 (.aload_n 0) 1 12 := dnAt dc_X7_sizeOf 8 rfl rfl
theorem d_X7_sizeOf_12 : dn cX7_sizeOf 12 (.getfield 66) 3 15 := dnAt dc_X7_sizeOf 9 rfl rfl
theorem d_X7_sizeOf_15 : dn cX7_sizeOf 15 (.bipush 40) 2 17 := dnAt dc_X7_sizeOf 10 rfl rfl
theorem d_X7_sizeOf_17 : dn cX7_sizeOf 17 (.iload_n 1) 1 18 := dnAt dc_X7_sizeOf 11 rfl rfl
theorem d_X7_sizeOf_18 : dn cX7_sizeOf 18 (.imul) 1 19 := dnAt dc_X7_sizeOf 12 rfl rfl
theorem d_X7_sizeOf_19 : dn cX7_sizeOf 19 (.iload_n 3) 1 20 := dnAt dc_X7_sizeOf 13 rfl rfl
theorem d_X7_sizeOf_20 : dn cX7_sizeOf 20 (.iadd) 1 21 := dnAt dc_X7_sizeOf 14 rfl rfl
theorem d_X7_sizeOf_21 : dn cX7_sizeOf 21 (.iaload) 1 22 := dnAt dc_X7_sizeOf 15 rfl rfl
theorem d_X7_sizeOf_22 : dn cX7_sizeOf 22 (.invokestatic 137) 3 25 := dnAt dc_X7_sizeOf 16 rfl rfl
theorem d_X7_sizeOf_25 : dn cX7_sizeOf 25 (.iadd) 1 26 := dnAt dc_X7_sizeOf 17 rfl rfl
theorem d_X7_sizeOf_26 : dn cX7_sizeOf 26 (.istore_n 2) 1 27 := dnAt dc_X7_sizeOf 18 rfl rfl
theorem d_X7_sizeOf_27 : dn cX7_sizeOf 27 (.iinc 3 1) 3 30 := dnAt dc_X7_sizeOf 19 rfl rfl
theorem d_X7_sizeOf_30 : dn cX7_sizeOf 30 (.goto (-26)) 3 33 := dnAt dc_X7_sizeOf 20 rfl rfl
theorem d_X7_sizeOf_33 : dn cX7_sizeOf 33 (.iload_n 2) 1 34 := dnAt dc_X7_sizeOf 21 rfl rfl
theorem d_X7_sizeOf_34 : dn cX7_sizeOf 34 (.ireturn) 1 35 := dnAt dc_X7_sizeOf 22 rfl rfl
set_option maxHeartbeats 4000000 in
set_option maxRecDepth 100000 in
theorem m_sizeOf (S : mS) (r : Nat) (hr : r < 8) (hl : ∀ k, k < 320 → mN S 21 k < 512) : mC yX7_sizeOf cX7_sizeOf 4 (Option.some Jvm.ClassFile.FieldType.int) { frames := 1, cells := 0, slots := 0, locals := 22 } [.int (nI r)] S (fun v9 T9 => v9 = (some (.int (nI (mSize S r)))) ∧ T9 = S) := by
  refine mC.of (by decide) (Nat.le_of_ble_eq_true rfl) ?_
  intro G x q h0 C A TY
  show VM G x q h0 S 0 [(0, .ref (q 0)), (1, .int (nI r))] []
  refine m_iconst C d_X7_sizeOf_0 (v := (nI 0)) rfl ?_
  refine m_istore_n C d_X7_sizeOf_1 (lv' := [(2, .int (nI 0)), (0, .ref (q 0)), (1, .int (nI r))]) (by decide) rfl ?_
  refine m_iconst C d_X7_sizeOf_2 (v := (nI 0)) rfl ?_
  refine m_istore_n C d_X7_sizeOf_3 (lv' := [(3, .int (nI 0)), (2, .int (nI 0)), (0, .ref (q 0)), (1, .int (nI r))]) (by decide) rfl ?_
  have loop_4 : ∀ (fuel : Nat) (k : Nat), (k ≤ 40) → (41 - k) < fuel → VM G x q h0 S 4 [(0, .ref (q 0)), (1, .int (nI r)), (2, .int (nI (sumTo (fun k => bits8 (mN S 21 (40 * r + k))) k))), (3, .int (nI k))] [] := by
    intro fuel
    induction fuel with
    | zero => intro k hk hf9; exact absurd hf9 (Nat.not_lt_zero _)
    | succ fuel ih_4 =>
      intro k hk hf9
      refine m_iload_n C d_X7_sizeOf_4 3 rfl ?_
      refine m_bipush C d_X7_sizeOf_5 (v := (nI 40)) rfl ?_
      refine mn_icmp_ge C d_X7_sizeOf_7 (tgt := 33) rfl (by omega) (by omega) (fun c_7 => ?_) (fun c_7 => ?_)
      · skip
        have e9 : k = 40 := by omega
        subst e9
        refine m_iload_n C d_X7_sizeOf_33 2 rfl ?_
        refine m_st (st' := [.int (nI (mSize S r))]) (rfl) ?_
        exact m_iret C A TY d_X7_sizeOf_34 rfl (⟨rfl, rfl⟩)
      · skip
        refine m_iload_n C d_X7_sizeOf_10 2 rfl ?_
        refine m_aload_n C d_X7_sizeOf_11 0 rfl ?_
        refine m_get C d_X7_sizeOf_12 fd_RX7_66 (v := .ref (q 21)) rfl ?_
        refine m_bipush C d_X7_sizeOf_15 (v := (nI 40)) rfl ?_
        refine m_iload_n C d_X7_sizeOf_17 1 rfl ?_
        refine mn_imul C d_X7_sizeOf_18 ?_
        refine m_iload_n C d_X7_sizeOf_19 3 rfl ?_
        refine mn_iadd C d_X7_sizeOf_20 ?_
        refine m_ald C d_X7_sizeOf_21 (k := 21) (by decide) rfl (by show _ < 320; omega) (by decide) ?_
        refine m_callS C d_X7_sizeOf_22 ok_RX7_137 (s_bits (mN S 21 ((40 * r) + k)) (Nat.lt_trans (hl _ (by omega)) (by decide))) (rest := [.int (nI (sumTo (fun k => bits8 (mN S 21 (40 * r + k))) k))]) rfl rfl (Nat.le_of_ble_eq_true rfl) ⟨⟨by decide, by decide⟩, by decide, by decide⟩ ?_
        show VM G x q h0 S 25 [(0, .ref (q 0)), (1, .int (nI r)), (2, .int (nI (sumTo (fun k => bits8 (mN S 21 (40 * r + k))) k))), (3, .int (nI k))] [.int (nI (bits8 (mN S 21 ((40 * r) + k)))), .int (nI (sumTo (fun k => bits8 (mN S 21 (40 * r + k))) k))]
        refine mn_iadd C d_X7_sizeOf_25 ?_
        refine m_istore_n C d_X7_sizeOf_26 (lv' := [(2, .int (nI ((sumTo (fun k => bits8 (mN S 21 (40 * r + k))) k) + (bits8 (mN S 21 ((40 * r) + k)))))), (0, .ref (q 0)), (1, .int (nI r)), (3, .int (nI k))]) (by decide) rfl ?_
        refine mn_iinc C d_X7_sizeOf_27 (lv' := [(3, .int (nI (k + 1))), (2, .int (nI ((sumTo (fun k => bits8 (mN S 21 (40 * r + k))) k) + (bits8 (mN S 21 ((40 * r) + k)))))), (0, .ref (q 0)), (1, .int (nI r))]) 3 rfl (nI_inc _ rfl) (by decide) rfl ?_
        refine m_goto C d_X7_sizeOf_30 (tgt := 4) rfl ?_
        refine m_lv (lv' := [(0, .ref (q 0)), (1, .int (nI r)), (2, .int (nI ((sumTo (fun k => bits8 (mN S 21 (40 * r + k))) k) + (bits8 (mN S 21 ((40 * r) + k)))))), (3, .int (nI (k + 1)))]) [2, 3, 1, 0] rfl ?_
        refine m_lve (lv' := [(0, .ref (q 0)), (1, .int (nI r)), (2, .int (nI (sumTo (fun k => bits8 (mN S 21 (40 * r + k))) (k + 1)))), (3, .int (nI (k + 1)))]) (rfl) ?_
        exact ih_4 (k + 1) (by omega) (by omega)
  refine m_lv (lv' := [(0, .ref (q 0)), (1, .int (nI r)), (2, .int (nI 0)), (3, .int (nI 0))]) [2, 3, 1, 0] rfl ?_
  refine m_lve (lv' := [(0, .ref (q 0)), (1, .int (nI r)), (2, .int (nI (sumTo (fun k => bits8 (mN S 21 (40 * r + k))) 0))), (3, .int (nI 0))]) (rfl) ?_
  exact loop_4 _ 0 (by omega) (Nat.lt_succ_self _)
