theorem tw_312 : (Jvm.Cond.classLink "CorpuslineLaw" (24 : Nat) "java/lang/IllegalStateException") ∈ TB := tb_of 312 (by decide +kernel) rfl
theorem tw_313 : (Jvm.Cond.methodLink "CorpuslineLaw" (10 : Nat) ({ cls := "Corpusline", name := "test", desc := "(IIZ)I" } : Jvm.MethodName)) ∈ TB := tb_of 313 (by decide +kernel) rfl
theorem tw_314 : (Jvm.Cond.instanceMethod ({ cls := "Corpusline", name := "test", desc := "(IIZ)I" } : Jvm.MethodName)) ∈ TB := tb_of 314 (by decide +kernel) rfl
theorem tw_315 : (Jvm.Cond.selects "Corpusline" ({ cls := "Corpusline", name := "test", desc := "(IIZ)I" } : Jvm.MethodName) ({ cls := "Corpusline", name := "test", desc := "(IIZ)I" } : Jvm.MethodName)) ∈ TB := tb_of 315 (by decide +kernel) rfl
theorem tw_316 : (Jvm.Cond.code ({ cls := "Corpusline", name := "test", desc := "(IIZ)I" } : Jvm.MethodName) prog_1_method_8_code (4 : Nat) (Option.some Jvm.ClassFile.FieldType.int)) ∈ TB := tb_of 316 (by decide +kernel) rfl
theorem tw_400 : (Jvm.Cond.methodLink "CorpuslineLaw" (16 : Nat) ({ cls := "Corpusline", name := "any", desc := "()I" } : Jvm.MethodName)) ∈ TB := tb_of 400 (by decide +kernel) rfl
theorem tw_401 : (Jvm.Cond.instanceMethod ({ cls := "Corpusline", name := "any", desc := "()I" } : Jvm.MethodName)) ∈ TB := tb_of 401 (by decide +kernel) rfl
theorem tw_402 : (Jvm.Cond.selects "Corpusline" ({ cls := "Corpusline", name := "any", desc := "()I" } : Jvm.MethodName) ({ cls := "Corpusline", name := "any", desc := "()I" } : Jvm.MethodName)) ∈ TB := tb_of 402 (by decide +kernel) rfl
theorem tw_403 : (Jvm.Cond.code ({ cls := "Corpusline", name := "any", desc := "()I" } : Jvm.MethodName) prog_1_method_9_code (1 : Nat) (Option.some Jvm.ClassFile.FieldType.int)) ∈ TB := tb_of 403 (by decide +kernel) rfl
theorem tw_405 : (Jvm.Cond.methodLink "CorpuslineLaw" (20 : Nat) ({ cls := "Corpusline", name := "same", desc := "(II)I" } : Jvm.MethodName)) ∈ TB := tb_of 405 (by decide +kernel) rfl
theorem tw_406 : (Jvm.Cond.instanceMethod ({ cls := "Corpusline", name := "same", desc := "(II)I" } : Jvm.MethodName)) ∈ TB := tb_of 406 (by decide +kernel) rfl
theorem tw_407 : (Jvm.Cond.selects "Corpusline" ({ cls := "Corpusline", name := "same", desc := "(II)I" } : Jvm.MethodName) ({ cls := "Corpusline", name := "same", desc := "(II)I" } : Jvm.MethodName)) ∈ TB := tb_of 407 (by decide +kernel) rfl
theorem tw_408 : (Jvm.Cond.code ({ cls := "Corpusline", name := "same", desc := "(II)I" } : Jvm.MethodName) prog_1_method_10_code (3 : Nat) (Option.some Jvm.ClassFile.FieldType.int)) ∈ TB := tb_of 408 (by decide +kernel) rfl
theorem tw_412 : (Jvm.Cond.methodLink "CorpuslineLaw" (32 : Nat) ({ cls := "Corpusline", name := "label", desc := "(I)V" } : Jvm.MethodName)) ∈ TB := tb_of 412 (by decide +kernel) rfl
theorem tw_413 : (Jvm.Cond.instanceMethod ({ cls := "Corpusline", name := "label", desc := "(I)V" } : Jvm.MethodName)) ∈ TB := tb_of 413 (by decide +kernel) rfl
theorem tw_414 : (Jvm.Cond.selects "Corpusline" ({ cls := "Corpusline", name := "label", desc := "(I)V" } : Jvm.MethodName) ({ cls := "Corpusline", name := "label", desc := "(I)V" } : Jvm.MethodName)) ∈ TB := tb_of 414 (by decide +kernel) rfl
theorem tw_415 : (Jvm.Cond.code ({ cls := "Corpusline", name := "label", desc := "(I)V" } : Jvm.MethodName) prog_1_method_11_code (3 : Nat) (Option.none : Option Jvm.ClassFile.FieldType)) ∈ TB := tb_of 415 (by decide +kernel) rfl
theorem tw_436 : (Jvm.Cond.methodLink "CorpuslineLaw" (29 : Nat) ({ cls := "Corpusline", name := "both", desc := "()I" } : Jvm.MethodName)) ∈ TB := tb_of 436 (by decide +kernel) rfl
theorem tw_437 : (Jvm.Cond.instanceMethod ({ cls := "Corpusline", name := "both", desc := "()I" } : Jvm.MethodName)) ∈ TB := tb_of 437 (by decide +kernel) rfl
theorem tw_438 : (Jvm.Cond.selects "Corpusline" ({ cls := "Corpusline", name := "both", desc := "()I" } : Jvm.MethodName) ({ cls := "Corpusline", name := "both", desc := "()I" } : Jvm.MethodName)) ∈ TB := tb_of 438 (by decide +kernel) rfl
theorem tw_439 : (Jvm.Cond.code ({ cls := "Corpusline", name := "both", desc := "()I" } : Jvm.MethodName) prog_1_method_12_code (3 : Nat) (Option.some Jvm.ClassFile.FieldType.int)) ∈ TB := tb_of 439 (by decide +kernel) rfl
theorem tw_444 : (Jvm.Cond.methodLink "CorpuslineLaw" (26 : Nat) ({ cls := "Corpusline", name := "repeat", desc := "(II)I" } : Jvm.MethodName)) ∈ TB := tb_of 444 (by decide +kernel) rfl
theorem tw_445 : (Jvm.Cond.instanceMethod ({ cls := "Corpusline", name := "repeat", desc := "(II)I" } : Jvm.MethodName)) ∈ TB := tb_of 445 (by decide +kernel) rfl
theorem tw_446 : (Jvm.Cond.selects "Corpusline" ({ cls := "Corpusline", name := "repeat", desc := "(II)I" } : Jvm.MethodName) ({ cls := "Corpusline", name := "repeat", desc := "(II)I" } : Jvm.MethodName)) ∈ TB := tb_of 446 (by decide +kernel) rfl
theorem tw_447 : (Jvm.Cond.code ({ cls := "Corpusline", name := "repeat", desc := "(II)I" } : Jvm.MethodName) prog_1_method_15_code (5 : Nat) (Option.some Jvm.ClassFile.FieldType.int)) ∈ TB := tb_of 447 (by decide +kernel) rfl
theorem ok_RL_10 : okV RL 10 yX6_test cX6_test 4 (Option.some Jvm.ClassFile.FieldType.int) 3 := ⟨tw_313, tw_314, tw_315, tw_1, tw_316, ⟨by decide, by decide, by decide +kernel⟩⟩
theorem ok_RL_16 : okV RL 16 yX6_any cX6_any 1 (Option.some Jvm.ClassFile.FieldType.int) 0 := ⟨tw_400, tw_401, tw_402, tw_1, tw_403, ⟨by decide, by decide, by decide +kernel⟩⟩
theorem ok_RL_20 : okV RL 20 yX6_same cX6_same 3 (Option.some Jvm.ClassFile.FieldType.int) 2 := ⟨tw_405, tw_406, tw_407, tw_1, tw_408, ⟨by decide, by decide, by decide +kernel⟩⟩
theorem ok_RL_26 : okV RL 26 yX6_repeat cX6_repeat 5 (Option.some Jvm.ClassFile.FieldType.int) 2 := ⟨tw_444, tw_445, tw_446, tw_1, tw_447, ⟨by decide, by decide, by decide +kernel⟩⟩
theorem ok_RL_29 : okV RL 29 yX6_both cX6_both 3 (Option.some Jvm.ClassFile.FieldType.int) 0 := ⟨tw_436, tw_437, tw_438, tw_1, tw_439, ⟨by decide, by decide, by decide +kernel⟩⟩
theorem ok_RL_32 : okV RL 32 yX6_label cX6_label 3 (Option.none : Option Jvm.ClassFile.FieldType) 1 := ⟨tw_412, tw_413, tw_414, tw_1, tw_415, ⟨by decide, by decide, by decide +kernel⟩⟩
def dl_L_ofTest : List (Nat × Instr × Nat) := [(0, .iload_n 1, 1), (1, .ifCond .ne 13, 3), (4, .aload_n 0, 1), (5, .iload_n 2, 1), (6, .iload_n 3, 1), (7, .iconst 0, 1), (8, .invokevirtual 10, 3), (11, .goto 38, 3), (14, .iload_n 1, 1), (15, .iconst 1, 1), (16, .if_icmp .ne 13, 3), (19, .aload_n 0, 1), (20, .iload_n 2, 1), (21, .iload_n 3, 1), (22, .iconst 1, 1), (23, .invokevirtual 10, 3), (26, .goto 23, 3), (29, .iload_n 1, 1), (30, .iconst 2, 1), (31, .if_icmp .ne 10, 3), (34, .aload_n 0, 1), (35, .invokevirtual 16, 3), (38, .goto 11, 3), (41, .aload_n 0, 1), (42, .iload_n 2, 1), (43, .iload_n 3, 1), (44, .iconst 3, 1), (45, .irem, 1), (46, .invokevirtual 20, 3), (49, .ireturn, 1), (50, .astore 4, 2), (52, .bipush (-2), 2), (54, .ireturn, 1)]
theorem dc_L_ofTest : dnL cL_ofTest dl_L_ofTest = true := by decide +kernel
theorem d_L_ofTest_0 : dn cL_ofTest 0 (.iload_n 1) 1 1 := dnAt dc_L_ofTest 0 rfl rfl
theorem d_L_ofTest_1 : dn cL_ofTest 1 (.ifCond .ne 13) 3 4 := dnAt dc_L_ofTest 1 rfl rfl
theorem d_L_ofTest_4 : dn cL_ofTest 4 (.aload_n 0) 1 5 := dnAt dc_L_ofTest 2 rfl rfl
theorem d_L_ofTest_5 : dn cL_ofTest 5 (.iload_n 2) 1 6 := dnAt dc_L_ofTest 3 rfl rfl
theorem d_L_ofTest_6 : dn cL_ofTest 6 (.iload_n 3) 1 7 := dnAt dc_L_ofTest 4 rfl rfl
theorem d_L_ofTest_7 : dn cL_ofTest 7 (.iconst 0) 1 8 := dnAt dc_L_ofTest 5 rfl rfl
theorem d_L_ofTest_8 : dn cL_ofTest 8 (.invokevirtual 10) 3 11 := dnAt dc_L_ofTest 6 rfl rfl
theorem d_L_ofTest_11 : dn cL_ofTest 11 (.goto 38) 3 14 := dnAt dc_L_ofTest 7 rfl rfl
theorem d_L_ofTest_14 : dn cL_ofTest 14 (.iload_n 1) 1 15 := dnAt dc_L_ofTest 8 rfl rfl
theorem d_L_ofTest_15 : dn cL_ofTest 15 (.iconst 1) 1 16 := dnAt dc_L_ofTest 9 rfl rfl
theorem d_L_ofTest_16 : dn cL_ofTest 16 (.if_icmp .ne 13) 3 19 := dnAt dc_L_ofTest 10 rfl rfl
theorem d_L_ofTest_19 : dn cL_ofTest 19 (.aload_n 0) 1 20 := dnAt dc_L_ofTest 11 rfl rfl
theorem d_L_ofTest_20 : dn cL_ofTest 20 (.iload_n 2) 1 21 := dnAt dc_L_ofTest 12 rfl rfl
theorem d_L_ofTest_21 : dn cL_ofTest 21 (.iload_n 3) 1 22 := dnAt dc_L_ofTest 13 rfl rfl
theorem d_L_ofTest_22 : dn cL_ofTest 22 (.iconst 1) 1 23 := dnAt dc_L_ofTest 14 rfl rfl
theorem d_L_ofTest_23 : dn cL_ofTest 23 (.invokevirtual 10) 3 26 := dnAt dc_L_ofTest 15 rfl rfl
theorem d_L_ofTest_26 : dn cL_ofTest 26 (.goto 23) 3 29 := dnAt dc_L_ofTest 16 rfl rfl
theorem d_L_ofTest_29 : dn cL_ofTest 29 (.iload_n 1) 1 30 := dnAt dc_L_ofTest 17 rfl rfl
theorem d_L_ofTest_30 : dn cL_ofTest 30 (.iconst 2) 1 31 := dnAt dc_L_ofTest 18 rfl rfl
theorem d_L_ofTest_31 : dn cL_ofTest 31 (.if_icmp .ne 10) 3 34 := dnAt dc_L_ofTest 19 rfl rfl
theorem d_L_ofTest_34 : dn cL_ofTest 34 (.aload_n 0) 1 35 := dnAt dc_L_ofTest 20 rfl rfl
theorem d_L_ofTest_35 : dn cL_ofTest 35 (.invokevirtual 16) 3 38 := dnAt dc_L_ofTest 21 rfl rfl
theorem d_L_ofTest_38 : dn cL_ofTest 38 (.goto 11) 3 41 := dnAt dc_L_ofTest 22 rfl rfl
theorem d_L_ofTest_41 : dn cL_ofTest 41 (.aload_n 0) 1 42 := dnAt dc_L_ofTest 23 rfl rfl
theorem d_L_ofTest_42 : dn cL_ofTest 42 (.iload_n 2) 1 43 := dnAt dc_L_ofTest 24 rfl rfl
theorem d_L_ofTest_43 : dn cL_ofTest 43 (.iload_n 3) 1 44 := dnAt dc_L_ofTest 25 rfl rfl
theorem d_L_ofTest_44 : dn cL_ofTest 44 (.iconst 3) 1 45 := dnAt dc_L_ofTest 26 rfl rfl
theorem d_L_ofTest_45 : dn cL_ofTest 45 (.irem) 1 46 := dnAt dc_L_ofTest 27 rfl rfl
theorem d_L_ofTest_46 : dn cL_ofTest 46 (.invokevirtual 20) 3 49 := dnAt dc_L_ofTest 28 rfl rfl
theorem d_L_ofTest_49 : dn cL_ofTest 49 (.ireturn) 1 50 := dnAt dc_L_ofTest 29 rfl rfl
theorem d_L_ofTest_50 : dn cL_ofTest 50 (.astore 4) 2 52 := dnAt dc_L_ofTest 30 rfl rfl
theorem d_L_ofTest_52 : dn cL_ofTest 52 (.bipush (-2)) 2 54 := dnAt dc_L_ofTest 31 rfl rfl
theorem d_L_ofTest_54 : dn cL_ofTest 54 (.ireturn) 1 55 := dnAt dc_L_ofTest 32 rfl rfl
set_option maxHeartbeats 4000000 in
set_option maxRecDepth 100000 in
theorem lawm_ofTest {l : Launch} {G : eG} {ad : Nat → Nat → Nat} {g : mS} {f : Nat → Nat} {kd a v : Nat} (hlf : l.stackTraces = false) (hk : kd < 4) (ha : a < 3) (hv : v < 3) : kWH l G ad g f yL_ofTest cL_ofTest 5 (Option.some Jvm.ClassFile.FieldType.int) [((0 : Nat), (49 : Nat), (50 : Nat), (24 : Nat))] { frames := 8, cells := 9, slots := 72, locals := 135 } [.ref (ad 0 0), .int (nI kd), .int (nI a), .int (nI v)] (fun v g' f' => f' = f ∧ ∃ n, pilR g g' n ∧ ((v = some (.int (nI (mK g 16 + 1))) ∧ n = mK g 16 + 1) ∨ (v = some (.int (-2)) ∧ n = mK g 16 ∧ mTests g = 8))) := by
  refine kWH.of hlf (by decide) (Nat.le_of_ble_eq_true rfl) (Nat.le_of_ble_eq_true rfl) ?_
  intro x LX C A TY XH
  show VP G x ad g f { frames := 8, cells := 9, slots := 72, locals := 135 } 9 0 [(0, .ref (ad 0 0)), (1, .int (nI kd)), (2, .int (nI a)), (3, .int (nI v))] []
  refine p_iload_n C d_L_ofTest_0 1 rfl ?_
  refine pn_if_ne C d_L_ofTest_1 (tgt := 14) rfl (by omega) (fun c_1 => ?_) (fun c_1 => ?_)
  · skip
    refine p_iload_n C d_L_ofTest_14 1 rfl ?_
    refine p_iconst C d_L_ofTest_15 (v := (nI 1)) rfl ?_
    refine pn_icmp_ne C d_L_ofTest_16 (tgt := 29) rfl (by omega) (by omega) (fun c_16 => ?_) (fun c_16 => ?_)
    · skip
      refine p_iload_n C d_L_ofTest_29 1 rfl ?_
      refine p_iconst C d_L_ofTest_30 (v := (nI 2)) rfl ?_
      refine pn_icmp_ne C d_L_ofTest_31 (tgt := 41) rfl (by omega) (by omega) (fun c_31 => ?_) (fun c_31 => ?_)
      · skip
        refine p_aload_n C d_L_ofTest_41 0 rfl ?_
        refine p_iload_n C d_L_ofTest_42 2 rfl ?_
        refine p_iload_n C d_L_ofTest_43 3 rfl ?_
        refine p_iconst C d_L_ofTest_44 (v := (nI 3)) rfl ?_
        refine pn_irem C d_L_ofTest_45 (by omega) (by omega) (by omega) ?_
        refine p_callH (As := [.int (nI a), .int (nI (v % 3))]) (B' := 0) C LX XH d_L_ofTest_46 ok_RL_20 (fun l h T X Y hl m A k => q_same hl m A k (ne_S (by omega) (by omega))) rfl rfl (rest := []) rfl (Nat.le_of_ble_eq_true rfl) ⟨by decide, Nat.le_of_ble_eq_true rfl⟩ ⟨(show 0 + 9 ≤ 9 by omega), Nat.le_of_ble_eq_true rfl⟩ (fun E9 x9 => ?_) (fun v9 g1 e1 => ?_)
        · obtain ⟨rfl, x9⟩ := x9
          refine ⟨50, ⟨[], ⟨0, 49, 50, 24⟩, [], rfl, fun _ h => absurd h List.not_mem_nil, rfl, by decide, tw_312, by decide, rfl⟩, fun z9 => ?_⟩
          refine p_astore C d_L_ofTest_50 (lv' := [(4, .ref z9), (0, .ref (ad 0 0)), (1, .int (nI kd)), (2, .int (nI a)), (3, .int (nI v))]) (by decide) rfl ?_
          refine p_bipush C d_L_ofTest_52 (v := ((-2))) rfl ?_
          exact p_iret C A TY d_L_ofTest_54 rfl (⟨rfl, _, pilR_rf, Or.inr ⟨rfl, rfl, by first | exact full_T x9 | exact full_A x9 | exact full_S x9⟩⟩)
        · skip
          obtain ⟨rfl, e1⟩ := e1
          show VP G x ad g1 f { frames := 8, cells := 9, slots := 72, locals := 135 } 0 49 [(0, .ref (ad 0 0)), (1, .int (nI kd)), (2, .int (nI a)), (3, .int (nI v))] [.int (nI (mK g 16 + 1))]
          exact p_iret C A TY d_L_ofTest_49 rfl (⟨rfl, _, e1, Or.inl ⟨rfl, rfl⟩⟩)
      · skip
        refine p_aload_n C d_L_ofTest_34 0 rfl ?_
        refine p_callH (As := []) (B' := 2) C LX XH d_L_ofTest_35 ok_RL_16 (fun l h T X Y hl m A k => q_any hl m A k ) rfl rfl (rest := []) rfl (Nat.le_of_ble_eq_true rfl) ⟨by decide, Nat.le_of_ble_eq_true rfl⟩ ⟨(show 2 + 7 ≤ 9 by omega), Nat.le_of_ble_eq_true rfl⟩ (fun E9 x9 => ?_) (fun v9 g2 e2 => ?_)
        · obtain ⟨rfl, x9⟩ := x9
          refine ⟨50, ⟨[], ⟨0, 49, 50, 24⟩, [], rfl, fun _ h => absurd h List.not_mem_nil, rfl, by decide, tw_312, by decide, rfl⟩, fun z9 => ?_⟩
          refine p_astore C d_L_ofTest_50 (lv' := [(4, .ref z9), (0, .ref (ad 0 0)), (1, .int (nI kd)), (2, .int (nI a)), (3, .int (nI v))]) (by decide) rfl ?_
          refine p_bipush C d_L_ofTest_52 (v := ((-2))) rfl ?_
          exact p_iret C A TY d_L_ofTest_54 rfl (⟨rfl, _, pilR_rf, Or.inr ⟨rfl, rfl, by first | exact full_T x9 | exact full_A x9 | exact full_S x9⟩⟩)
        · skip
          obtain ⟨rfl, e2⟩ := e2
          show VP G x ad g2 f { frames := 8, cells := 9, slots := 72, locals := 135 } 2 38 [(0, .ref (ad 0 0)), (1, .int (nI kd)), (2, .int (nI a)), (3, .int (nI v))] [.int (nI (mK g 16 + 1))]
          refine p_goto C d_L_ofTest_38 (tgt := 49) rfl ?_
          exact p_iret C A TY d_L_ofTest_49 rfl (⟨rfl, _, e2, Or.inl ⟨rfl, rfl⟩⟩)
    · skip
      refine p_aload_n C d_L_ofTest_19 0 rfl ?_
      refine p_iload_n C d_L_ofTest_20 2 rfl ?_
      refine p_iload_n C d_L_ofTest_21 3 rfl ?_
      refine p_iconst C d_L_ofTest_22 (v := (bI true)) rfl ?_
      refine p_callH (As := [.int (nI a), .int (nI v), .int (bI true)]) (B' := 0) C LX XH d_L_ofTest_23 ok_RL_10 (fun l h T X Y hl m A k => q_test hl m A k (ne_T (by omega) (by omega))) rfl rfl (rest := []) rfl (Nat.le_of_ble_eq_true rfl) ⟨by decide, Nat.le_of_ble_eq_true rfl⟩ ⟨(show 0 + 9 ≤ 9 by omega), Nat.le_of_ble_eq_true rfl⟩ (fun E9 x9 => ?_) (fun v9 g3 e3 => ?_)
      · obtain ⟨rfl, x9⟩ := x9
        refine ⟨50, ⟨[], ⟨0, 49, 50, 24⟩, [], rfl, fun _ h => absurd h List.not_mem_nil, rfl, by decide, tw_312, by decide, rfl⟩, fun z9 => ?_⟩
        refine p_astore C d_L_ofTest_50 (lv' := [(4, .ref z9), (0, .ref (ad 0 0)), (1, .int (nI kd)), (2, .int (nI a)), (3, .int (nI v))]) (by decide) rfl ?_
        refine p_bipush C d_L_ofTest_52 (v := ((-2))) rfl ?_
        exact p_iret C A TY d_L_ofTest_54 rfl (⟨rfl, _, pilR_rf, Or.inr ⟨rfl, rfl, by first | exact full_T x9 | exact full_A x9 | exact full_S x9⟩⟩)
      · skip
        obtain ⟨rfl, e3⟩ := e3
        show VP G x ad g3 f { frames := 8, cells := 9, slots := 72, locals := 135 } 0 26 [(0, .ref (ad 0 0)), (1, .int (nI kd)), (2, .int (nI a)), (3, .int (nI v))] [.int (nI (mK g 16 + 1))]
        refine p_goto C d_L_ofTest_26 (tgt := 49) rfl ?_
        exact p_iret C A TY d_L_ofTest_49 rfl (⟨rfl, _, e3, Or.inl ⟨rfl, rfl⟩⟩)
  · skip
    refine p_aload_n C d_L_ofTest_4 0 rfl ?_
    refine p_iload_n C d_L_ofTest_5 2 rfl ?_
    refine p_iload_n C d_L_ofTest_6 3 rfl ?_
    refine p_iconst C d_L_ofTest_7 (v := (bI false)) rfl ?_
    refine p_callH (As := [.int (nI a), .int (nI v), .int (bI false)]) (B' := 0) C LX XH d_L_ofTest_8 ok_RL_10 (fun l h T X Y hl m A k => q_test hl m A k (ne_T (by omega) (by omega))) rfl rfl (rest := []) rfl (Nat.le_of_ble_eq_true rfl) ⟨by decide, Nat.le_of_ble_eq_true rfl⟩ ⟨(show 0 + 9 ≤ 9 by omega), Nat.le_of_ble_eq_true rfl⟩ (fun E9 x9 => ?_) (fun v9 g4 e4 => ?_)
    · obtain ⟨rfl, x9⟩ := x9
      refine ⟨50, ⟨[], ⟨0, 49, 50, 24⟩, [], rfl, fun _ h => absurd h List.not_mem_nil, rfl, by decide, tw_312, by decide, rfl⟩, fun z9 => ?_⟩
      refine p_astore C d_L_ofTest_50 (lv' := [(4, .ref z9), (0, .ref (ad 0 0)), (1, .int (nI kd)), (2, .int (nI a)), (3, .int (nI v))]) (by decide) rfl ?_
      refine p_bipush C d_L_ofTest_52 (v := ((-2))) rfl ?_
      exact p_iret C A TY d_L_ofTest_54 rfl (⟨rfl, _, pilR_rf, Or.inr ⟨rfl, rfl, by first | exact full_T x9 | exact full_A x9 | exact full_S x9⟩⟩)
    · skip
      obtain ⟨rfl, e4⟩ := e4
      show VP G x ad g4 f { frames := 8, cells := 9, slots := 72, locals := 135 } 0 11 [(0, .ref (ad 0 0)), (1, .int (nI kd)), (2, .int (nI a)), (3, .int (nI v))] [.int (nI (mK g 16 + 1))]
      refine p_goto C d_L_ofTest_11 (tgt := 49) rfl ?_
      exact p_iret C A TY d_L_ofTest_49 rfl (⟨rfl, _, e4, Or.inl ⟨rfl, rfl⟩⟩)
def dl_L_ofRepeat : List (Nat × Instr × Nat) := [(0, .aload_n 0, 1), (1, .iload_n 1, 1), (2, .iload_n 2, 1), (3, .invokevirtual 26, 3), (6, .ireturn, 1), (7, .astore_n 3, 1), (8, .bipush (-2), 2), (10, .ireturn, 1)]
theorem dc_L_ofRepeat : dnL cL_ofRepeat dl_L_ofRepeat = true := by decide +kernel
theorem d_L_ofRepeat_0 : dn cL_ofRepeat 0 (.aload_n 0) 1 1 := dnAt dc_L_ofRepeat 0 rfl rfl
theorem d_L_ofRepeat_1 : dn cL_ofRepeat 1 (.iload_n 1) 1 2 := dnAt dc_L_ofRepeat 1 rfl rfl
theorem d_L_ofRepeat_2 : dn cL_ofRepeat 2 (.iload_n 2) 1 3 := dnAt dc_L_ofRepeat 2 rfl rfl
theorem d_L_ofRepeat_3 : dn cL_ofRepeat 3 (.invokevirtual 26) 3 6 := dnAt dc_L_ofRepeat 3 rfl rfl
theorem d_L_ofRepeat_6 : dn cL_ofRepeat 6 (.ireturn) 1 7 := dnAt dc_L_ofRepeat 4 rfl rfl
theorem d_L_ofRepeat_7 : dn cL_ofRepeat 7 (.astore_n 3) 1 8 := dnAt dc_L_ofRepeat 5 rfl rfl
theorem d_L_ofRepeat_8 : dn cL_ofRepeat 8 (.bipush (-2)) 2 10 := dnAt dc_L_ofRepeat 6 rfl rfl
theorem d_L_ofRepeat_10 : dn cL_ofRepeat 10 (.ireturn) 1 11 := dnAt dc_L_ofRepeat 7 rfl rfl
set_option maxHeartbeats 4000000 in
set_option maxRecDepth 100000 in
theorem lawm_ofRepeat {l : Launch} {G : eG} {ad : Nat → Nat → Nat} {g : mS} {f : Nat → Nat} {a b : Nat} (hlf : l.stackTraces = false) (ha : a < 4) (hb : b < 4) (h1 : 1 ≤ b) (hab : a ≤ b) : kWH l G ad g f yL_ofRepeat cL_ofRepeat 4 (Option.some Jvm.ClassFile.FieldType.int) [((0 : Nat), (6 : Nat), (7 : Nat), (24 : Nat))] { frames := 8, cells := 18, slots := 144, locals := 136 } [.ref (ad 0 0), .int (nI a), .int (nI b)] (fun v g' f' => f' = f ∧ pilR g g' (mK g 16) ∧ (v = some (.int (nI (mTests g'))) ∨ v = some (.int (-2)))) := by
  refine kWH.of hlf (by decide) (Nat.le_of_ble_eq_true rfl) (Nat.le_of_ble_eq_true rfl) ?_
  intro x LX C A TY XH
  show VP G x ad g f { frames := 8, cells := 18, slots := 144, locals := 136 } 18 0 [(0, .ref (ad 0 0)), (1, .int (nI a)), (2, .int (nI b))] []
  refine p_aload_n C d_L_ofRepeat_0 0 rfl ?_
  refine p_iload_n C d_L_ofRepeat_1 1 rfl ?_
  refine p_iload_n C d_L_ofRepeat_2 2 rfl ?_
  refine p_callH (As := [.int (nI a), .int (nI b)]) (B' := 0) C LX XH d_L_ofRepeat_3 ok_RL_26 (fun l h T X Y hl m A k => q_repeat hl m A k (ne_R (by omega) (by omega) (by omega) (by omega))) rfl rfl (rest := []) rfl (Nat.le_of_ble_eq_true rfl) ⟨by decide, Nat.le_of_ble_eq_true rfl⟩ ⟨(show 0 + 18 ≤ 18 by omega), Nat.le_of_ble_eq_true rfl⟩ (fun E9 x9 => ?_) (fun v9 g1 e1 => ?_)
  · subst x9
    refine ⟨7, ⟨[], ⟨0, 6, 7, 24⟩, [], rfl, fun _ h => absurd h List.not_mem_nil, rfl, by decide, tw_312, by decide, rfl⟩, fun z9 => ?_⟩
    refine p_astore_n C d_L_ofRepeat_7 (lv' := [(3, .ref z9), (0, .ref (ad 0 0)), (1, .int (nI a)), (2, .int (nI b))]) (by decide) rfl ?_
    refine p_bipush C d_L_ofRepeat_8 (v := ((-2))) rfl ?_
    exact p_iret C A TY d_L_ofRepeat_10 rfl (⟨rfl, pilR_rf, Or.inr rfl⟩)
  · skip
    obtain ⟨rfl, e1⟩ := e1
    show VP G x ad g1 f { frames := 8, cells := 18, slots := 144, locals := 136 } 0 6 [(0, .ref (ad 0 0)), (1, .int (nI a)), (2, .int (nI b))] [.int (nI (mTests g1))]
    exact p_iret C A TY d_L_ofRepeat_6 rfl (⟨rfl, e1, Or.inl rfl⟩)
def dl_L_ofBoth : List (Nat × Instr × Nat) := [(0, .aload_n 0, 1), (1, .invokevirtual 29, 3), (4, .ireturn, 1), (5, .astore_n 1, 1), (6, .bipush (-2), 2), (8, .ireturn, 1)]
theorem dc_L_ofBoth : dnL cL_ofBoth dl_L_ofBoth = true := by decide +kernel
theorem d_L_ofBoth_0 : dn cL_ofBoth 0 (.aload_n 0) 1 1 := dnAt dc_L_ofBoth 0 rfl rfl
theorem d_L_ofBoth_1 : dn cL_ofBoth 1 (.invokevirtual 29) 3 4 := dnAt dc_L_ofBoth 1 rfl rfl
theorem d_L_ofBoth_4 : dn cL_ofBoth 4 (.ireturn) 1 5 := dnAt dc_L_ofBoth 2 rfl rfl
theorem d_L_ofBoth_5 : dn cL_ofBoth 5 (.astore_n 1) 1 6 := dnAt dc_L_ofBoth 3 rfl rfl
theorem d_L_ofBoth_6 : dn cL_ofBoth 6 (.bipush (-2)) 2 8 := dnAt dc_L_ofBoth 4 rfl rfl
theorem d_L_ofBoth_8 : dn cL_ofBoth 8 (.ireturn) 1 9 := dnAt dc_L_ofBoth 5 rfl rfl
set_option maxHeartbeats 4000000 in
set_option maxRecDepth 100000 in
theorem lawm_ofBoth {l : Launch} {G : eG} {ad : Nat → Nat → Nat} {g : mS} {f : Nat → Nat} (hlf : l.stackTraces = false) : kWH l G ad g f yL_ofBoth cL_ofBoth 2 (Option.some Jvm.ClassFile.FieldType.int) [((0 : Nat), (4 : Nat), (5 : Nat), (24 : Nat))] { frames := 9, cells := 9, slots := 72, locals := 155 } [.ref (ad 0 0)] (fun v g' f' => f' = f ∧ ∃ n, pilR g g' n ∧ ((v = some (.int (nI (mK g 16 - 1))) ∧ n = mK g 16 - 1) ∨ (v = some (.int (-2)) ∧ n = mK g 16))) := by
  refine kWH.of hlf (by decide) (Nat.le_of_ble_eq_true rfl) (Nat.le_of_ble_eq_true rfl) ?_
  intro x LX C A TY XH
  show VP G x ad g f { frames := 9, cells := 9, slots := 72, locals := 155 } 9 0 [(0, .ref (ad 0 0))] []
  refine p_aload_n C d_L_ofBoth_0 0 rfl ?_
  refine p_callH (As := []) (B' := 0) C LX XH d_L_ofBoth_1 ok_RL_29 (fun l h T X Y hl m A k => q_both hl m A k ) rfl rfl (rest := []) rfl (Nat.le_of_ble_eq_true rfl) ⟨by decide, Nat.le_of_ble_eq_true rfl⟩ ⟨(show 0 + 9 ≤ 9 by omega), Nat.le_of_ble_eq_true rfl⟩ (fun E9 x9 => ?_) (fun v9 g1 e1 => ?_)
  · subst x9
    refine ⟨5, ⟨[], ⟨0, 4, 5, 24⟩, [], rfl, fun _ h => absurd h List.not_mem_nil, rfl, by decide, tw_312, by decide, rfl⟩, fun z9 => ?_⟩
    refine p_astore_n C d_L_ofBoth_5 (lv' := [(1, .ref z9), (0, .ref (ad 0 0))]) (by decide) rfl ?_
    refine p_bipush C d_L_ofBoth_6 (v := ((-2))) rfl ?_
    exact p_iret C A TY d_L_ofBoth_8 rfl (⟨rfl, _, pilR_rf, Or.inr ⟨rfl, rfl⟩⟩)
  · skip
    obtain ⟨rfl, e1⟩ := e1
    show VP G x ad g1 f { frames := 9, cells := 9, slots := 72, locals := 155 } 0 4 [(0, .ref (ad 0 0))] [.int (nI (mK g 16 - 1))]
    exact p_iret C A TY d_L_ofBoth_4 rfl (⟨rfl, _, e1, Or.inl ⟨rfl, rfl⟩⟩)
def dl_L_isLabelled : List (Nat × Instr × Nat) := [(0, .aload_n 0, 1), (1, .iload_n 1, 1), (2, .invokevirtual 32, 3), (5, .iconst 1, 1), (6, .ireturn, 1), (7, .astore_n 2, 1), (8, .iconst 0, 1), (9, .ireturn, 1)]
theorem dc_L_isLabelled : dnL cL_isLabelled dl_L_isLabelled = true := by decide +kernel
theorem d_L_isLabelled_0 : dn cL_isLabelled 0 (.aload_n 0) 1 1 := dnAt dc_L_isLabelled 0 rfl rfl
theorem d_L_isLabelled_1 : dn cL_isLabelled 1 (.iload_n 1) 1 2 := dnAt dc_L_isLabelled 1 rfl rfl
theorem d_L_isLabelled_2 : dn cL_isLabelled 2 (.invokevirtual 32) 3 5 := dnAt dc_L_isLabelled 2 rfl rfl
theorem d_L_isLabelled_5 : dn cL_isLabelled 5 (.iconst 1) 1 6 := dnAt dc_L_isLabelled 3 rfl rfl
theorem d_L_isLabelled_6 : dn cL_isLabelled 6 (.ireturn) 1 7 := dnAt dc_L_isLabelled 4 rfl rfl
theorem d_L_isLabelled_7 : dn cL_isLabelled 7 (.astore_n 2) 1 8 := dnAt dc_L_isLabelled 5 rfl rfl
theorem d_L_isLabelled_8 : dn cL_isLabelled 8 (.iconst 0) 1 9 := dnAt dc_L_isLabelled 6 rfl rfl
theorem d_L_isLabelled_9 : dn cL_isLabelled 9 (.ireturn) 1 10 := dnAt dc_L_isLabelled 7 rfl rfl
set_option maxHeartbeats 4000000 in
set_option maxRecDepth 100000 in
theorem lawm_isLabelled {l : Launch} {G : eG} {ad : Nat → Nat → Nat} {g : mS} {f : Nat → Nat} {a : Nat} (hlf : l.stackTraces = false) (ha : a < 3) : kWH l G ad g f yL_isLabelled cL_isLabelled 3 (Option.some Jvm.ClassFile.FieldType.boolean) [((0 : Nat), (6 : Nat), (7 : Nat), (24 : Nat))] { frames := 9, cells := 8, slots := 64, locals := 155 } [.ref (ad 0 0), .int (nI a)] (fun v g' f' => f' = f ∧ pilR g g' (mK g 16) ∧ ∃ b, v = some (.int (bI b))) := by
  refine kWH.of hlf (by decide) (Nat.le_of_ble_eq_true rfl) (Nat.le_of_ble_eq_true rfl) ?_
  intro x LX C A TY XH
  show VP G x ad g f { frames := 9, cells := 8, slots := 64, locals := 155 } 8 0 [(0, .ref (ad 0 0)), (1, .int (nI a))] []
  refine p_aload_n C d_L_isLabelled_0 0 rfl ?_
  refine p_iload_n C d_L_isLabelled_1 1 rfl ?_
  refine p_callH (As := [.int (nI a)]) (B' := 0) C LX XH d_L_isLabelled_2 ok_RL_32 (fun l h T X Y hl m A k => q_label hl m A k (ne_L (by omega))) rfl rfl (rest := []) rfl (Nat.le_of_ble_eq_true rfl) ⟨by decide, Nat.le_of_ble_eq_true rfl⟩ ⟨(show 0 + 8 ≤ 8 by omega), Nat.le_of_ble_eq_true rfl⟩ (fun E9 x9 => ?_) (fun v9 g1 e1 => ?_)
  · subst x9
    refine ⟨7, ⟨[], ⟨0, 6, 7, 24⟩, [], rfl, fun _ h => absurd h List.not_mem_nil, rfl, by decide, tw_312, by decide, rfl⟩, fun z9 => ?_⟩
    refine p_astore_n C d_L_isLabelled_7 (lv' := [(2, .ref z9), (0, .ref (ad 0 0)), (1, .int (nI a))]) (by decide) rfl ?_
    refine p_iconst C d_L_isLabelled_8 (v := (bI false)) rfl ?_
    exact p_iret C A TY d_L_isLabelled_9 rfl (⟨rfl, pilR_rf, _, rfl⟩)
  · skip
    obtain ⟨rfl, e1⟩ := e1
    show VP G x ad g1 f { frames := 9, cells := 8, slots := 64, locals := 155 } 0 5 [(0, .ref (ad 0 0)), (1, .int (nI a))] []
    refine p_iconst C d_L_isLabelled_5 (v := (bI true)) rfl ?_
    exact p_iret C A TY d_L_isLabelled_6 rfl (⟨rfl, e1, _, rfl⟩)
