theorem tw_5 : (Jvm.Cond.initialized "CorpuslineModel") ∈ TB := tb_of 5 (by decide +kernel) rfl
theorem tw_661 : (Jvm.Cond.fieldLink "CorpuslineModel" (72 : Nat) "CorpuslineModel" "thrown" "I") ∈ TB := tb_of 661 (by decide +kernel) rfl
theorem tw_663 : (Jvm.Cond.fieldLink "CorpuslineModel" (13 : Nat) "CorpuslineModel" "attributes" "[I") ∈ TB := tb_of 663 (by decide +kernel) rfl
theorem tw_669 : (Jvm.Cond.fieldLink "CorpuslineModel" (33 : Nat) "CorpuslineModel" "tests" "[I") ∈ TB := tb_of 669 (by decide +kernel) rfl
theorem tw_677 : (Jvm.Cond.fieldLink "CorpuslineModel" (98 : Nat) "CorpuslineModel" "pile" "I") ∈ TB := tb_of 677 (by decide +kernel) rfl
theorem tw_682 : (Jvm.Cond.fieldLink "CorpuslineModel" (66 : Nat) "CorpuslineModel" "lengths" "[I") ∈ TB := tb_of 682 (by decide +kernel) rfl
theorem tw_740 : (Jvm.Cond.methodLink "CorpuslineModel" (76 : Nat) ({ cls := "CorpuslineModel", name := "isIn", desc := "(III)Z" } : Jvm.MethodName)) ∈ TB := tb_of 740 (by decide +kernel) rfl
theorem tw_741 : (Jvm.Cond.static ({ cls := "CorpuslineModel", name := "isIn", desc := "(III)Z" } : Jvm.MethodName)) ∈ TB := tb_of 741 (by decide +kernel) rfl
theorem tw_742 : (Jvm.Cond.code ({ cls := "CorpuslineModel", name := "isIn", desc := "(III)Z" } : Jvm.MethodName) prog_9_method_4_code (3 : Nat) (Option.some Jvm.ClassFile.FieldType.boolean)) ∈ TB := tb_of 742 (by decide +kernel) rfl
theorem tw_879 : (Jvm.Cond.methodLink "CorpuslineModel" (137 : Nat) ({ cls := "CorpuslineModel", name := "bits", desc := "(I)I" } : Jvm.MethodName)) ∈ TB := tb_of 879 (by decide +kernel) rfl
theorem tw_880 : (Jvm.Cond.static ({ cls := "CorpuslineModel", name := "bits", desc := "(I)I" } : Jvm.MethodName)) ∈ TB := tb_of 880 (by decide +kernel) rfl
theorem tw_881 : (Jvm.Cond.code ({ cls := "CorpuslineModel", name := "bits", desc := "(I)I" } : Jvm.MethodName) prog_9_method_38_code (3 : Nat) (Option.some Jvm.ClassFile.FieldType.int)) ∈ TB := tb_of 881 (by decide +kernel) rfl
theorem cw_0 : ∀ w ∈ u_ws RX0 TX0 7, w ∈ TB := fun w hw => List.mem_filter.mpr ⟨(show ∀ w ∈ u_ws RX0 TX0 7, w ∈ lw_tbl from by decide +kernel) w hw, (show ∀ w ∈ u_ws RX0 TX0 7, goodWord w = true from by decide +kernel) w hw⟩
theorem cw_1 : ∀ w ∈ u_ws RX1 TX1 3, w ∈ TB := fun w hw => List.mem_filter.mpr ⟨(show ∀ w ∈ u_ws RX1 TX1 3, w ∈ lw_tbl from by decide +kernel) w hw, (show ∀ w ∈ u_ws RX1 TX1 3, goodWord w = true from by decide +kernel) w hw⟩
theorem cw_2 : ∀ w ∈ u_ws RX3 TX3 7, w ∈ TB := fun w hw => List.mem_filter.mpr ⟨(show ∀ w ∈ u_ws RX3 TX3 7, w ∈ lw_tbl from by decide +kernel) w hw, (show ∀ w ∈ u_ws RX3 TX3 7, goodWord w = true from by decide +kernel) w hw⟩
theorem cw_3 : ∀ w ∈ u_ws RX4 TX4 3, w ∈ TB := fun w hw => List.mem_filter.mpr ⟨(show ∀ w ∈ u_ws RX4 TX4 3, w ∈ lw_tbl from by decide +kernel) w hw, (show ∀ w ∈ u_ws RX4 TX4 3, goodWord w = true from by decide +kernel) w hw⟩
theorem cw_4 : ∀ w ∈ u_ws RX5 TX5 3, w ∈ TB := fun w hw => List.mem_filter.mpr ⟨(show ∀ w ∈ u_ws RX5 TX5 3, w ∈ lw_tbl from by decide +kernel) w hw, (show ∀ w ∈ u_ws RX5 TX5 3, goodWord w = true from by decide +kernel) w hw⟩
theorem cw_5 : ∀ w ∈ u_ws RX6 TX6 9, w ∈ TB := fun w hw => List.mem_filter.mpr ⟨(show ∀ w ∈ u_ws RX6 TX6 9, w ∈ lw_tbl from by decide +kernel) w hw, (show ∀ w ∈ u_ws RX6 TX6 9, goodWord w = true from by decide +kernel) w hw⟩
theorem cw_6 : ∀ w ∈ u_ws RX7 TX7 23, w ∈ TB := fun w hw => List.mem_filter.mpr ⟨(show ∀ w ∈ u_ws RX7 TX7 23, w ∈ lw_tbl from by decide +kernel) w hw, (show ∀ w ∈ u_ws RX7 TX7 23, goodWord w = true from by decide +kernel) w hw⟩
theorem fd_RX7_13 : fdOk RX7 13 6 2 := ⟨_, _, _, rfl, by decide, cw_6, tw_663, rfl⟩
theorem fd_RX7_33 : fdOk RX7 33 6 8 := ⟨_, _, _, rfl, by decide, cw_6, tw_669, rfl⟩
theorem fd_RX7_66 : fdOk RX7 66 6 21 := ⟨_, _, _, rfl, by decide, cw_6, tw_682, rfl⟩
theorem fd_RX7_72 : fdOk RX7 72 6 0 := ⟨_, _, _, rfl, by decide, cw_6, tw_661, rfl⟩
theorem fd_RX7_98 : fdOk RX7 98 6 16 := ⟨_, _, _, rfl, by decide, cw_6, tw_677, rfl⟩
theorem pf_RX7_72 : pfOk RX7 72 6 0 .int false := ⟨_, _, _, tyX7, rfl, by decide, cw_6, tw_661, rfl, tyX7_ok, nmX7, rfl, by decide +kernel⟩
theorem ok_RX7_76 : okS RX7 76 yX7_isIn cX7_isIn 3 (Option.some Jvm.ClassFile.FieldType.boolean) 3 := ⟨tw_740, tw_741, tw_5, tw_742, ⟨by decide, by decide, by decide +kernel⟩⟩
theorem ok_RX7_137 : okS RX7 137 yX7_bits cX7_bits 3 (Option.some Jvm.ClassFile.FieldType.int) 1 := ⟨tw_879, tw_880, tw_5, tw_881, ⟨by decide, by decide, by decide +kernel⟩⟩
