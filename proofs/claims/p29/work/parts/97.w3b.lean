theorem tw_541 : (Jvm.Cond.methodLink "CorpuslineLaw" (121 : Nat) ({ cls := "Corpusline", name := "match", desc := "(II)I" } : Jvm.MethodName)) ∈ TB := tb_of 541 (by decide +kernel) rfl
theorem tw_542 : (Jvm.Cond.instanceMethod ({ cls := "Corpusline", name := "match", desc := "(II)I" } : Jvm.MethodName)) ∈ TB := tb_of 542 (by decide +kernel) rfl
theorem tw_543 : (Jvm.Cond.selects "Corpusline" ({ cls := "Corpusline", name := "match", desc := "(II)I" } : Jvm.MethodName) ({ cls := "Corpusline", name := "match", desc := "(II)I" } : Jvm.MethodName)) ∈ TB := tb_of 543 (by decide +kernel) rfl
theorem tw_544 : (Jvm.Cond.code ({ cls := "Corpusline", name := "match", desc := "(II)I" } : Jvm.MethodName) prog_1_method_25_code (7 : Nat) (Option.some Jvm.ClassFile.FieldType.int)) ∈ TB := tb_of 544 (by decide +kernel) rfl
theorem tw_569 : (Jvm.Cond.methodLink "CorpuslineLaw" (131 : Nat) ({ cls := "Corpusline", name := "thin", desc := "(I)I" } : Jvm.MethodName)) ∈ TB := tb_of 569 (by decide +kernel) rfl
theorem tw_570 : (Jvm.Cond.instanceMethod ({ cls := "Corpusline", name := "thin", desc := "(I)I" } : Jvm.MethodName)) ∈ TB := tb_of 570 (by decide +kernel) rfl
theorem tw_571 : (Jvm.Cond.selects "Corpusline" ({ cls := "Corpusline", name := "thin", desc := "(I)I" } : Jvm.MethodName) ({ cls := "Corpusline", name := "thin", desc := "(I)I" } : Jvm.MethodName)) ∈ TB := tb_of 571 (by decide +kernel) rfl
theorem tw_572 : (Jvm.Cond.code ({ cls := "Corpusline", name := "thin", desc := "(I)I" } : Jvm.MethodName) prog_1_method_21_code (6 : Nat) (Option.some Jvm.ClassFile.FieldType.int)) ∈ TB := tb_of 572 (by decide +kernel) rfl
theorem ok_RL_121 : okV RL 121 yX6_match cX6_match 7 (Option.some Jvm.ClassFile.FieldType.int) 2 := ⟨tw_541, tw_542, tw_543, tw_1, tw_544, ⟨by decide, by decide, by decide +kernel⟩⟩
theorem ok_RL_131 : okV RL 131 yX6_thin cX6_thin 6 (Option.some Jvm.ClassFile.FieldType.int) 1 := ⟨tw_569, tw_570, tw_571, tw_1, tw_572, ⟨by decide, by decide, by decide +kernel⟩⟩
def dl_L_thins : List (Nat × Instr × Nat) := [(0, .aload_n 0, 1), (1, .iload_n 2, 1), (2, .invokevirtual 82, 3), (5, .istore_n 3, 1), (6, .aload_n 0, 1), (7, .iload_n 2, 1), (8, .invokevirtual 131, 3), (11, .istore 4, 2), (13, .iconst 0, 1), (14, .istore 5, 2), (16, .iload 4, 2), (18, .iload_n 3, 1), (19, .if_icmp .gt 26, 3), (22, .iload_n 3, 1), (23, .ifCond .eq 8, 3), (26, .iload 4, 2), (28, .ifCond .le 17, 3), (31, .aload_n 0, 1), (32, .iload_n 2, 1), (33, .invokevirtual 131, 3), (36, .iload 4, 2), (38, .if_icmp .ne 7, 3), (41, .iconst 1, 1), (42, .goto 4, 3), (45, .iconst 0, 1), (46, .istore 6, 2), (48, .iconst 0, 1), (49, .istore 7, 2), (51, .iload 7, 2), (53, .iload 4, 2), (55, .if_icmp .ge 53, 3), (58, .iload 6, 2), (60, .ifCond .eq 48, 3), (63, .aload_n 0, 1), (64, .iload_n 2, 1), (65, .iload 7, 2), (67, .invokevirtual 121, 3), (70, .istore 8, 2), (72, .iload 8, 2), (74, .bipush 100, 2), (76, .idiv, 1), (77, .iload 5, 2), (79, .if_icmp .lt 7, 3), (82, .iconst 1, 1), (83, .goto 4, 3), (86, .iconst 0, 1), (87, .istore 6, 2), (89, .iload 8, 2), (91, .bipush 100, 2), (93, .idiv, 1), (94, .iload 8, 2), (96, .bipush 100, 2), (98, .irem, 1), (99, .iadd, 1), (100, .istore 5, 2), (102, .iinc 7 1, 3), (105, .goto (-54), 3), (108, .iload 6, 2), (110, .ifCond .eq 20, 3), (113, .iload 5, 2), (115, .aload_n 1, 1), (116, .aload_n 1, 1), (117, .bipush 12, 2), (119, .iload_n 2, 1), (120, .iadd, 1), (121, .iaload, 1), (122, .iaload, 1), (123, .if_icmp .gt 7, 3), (126, .iconst 1, 1), (127, .goto 4, 3), (130, .iconst 0, 1), (131, .ireturn, 1)]
theorem dc_L_thins : dnL cL_thins dl_L_thins = true := by decide +kernel
theorem d_L_thins_0 : dn cL_thins 0 (.aload_n 0) 1 1 := dnAt dc_L_thins 0 rfl rfl
theorem d_L_thins_1 : dn cL_thins 1 (.iload_n 2) 1 2 := dnAt dc_L_thins 1 rfl rfl
theorem d_L_thins_2 : dn cL_thins 2 (.invokevirtual 82) 3 5 := dnAt dc_L_thins 2 rfl rfl
theorem d_L_thins_5 : dn cL_thins 5 (.istore_n 3) 1 6 := dnAt dc_L_thins 3 rfl rfl
theorem d_L_thins_6 : dn cL_thins 6 (.aload_n 0) 1 7 := dnAt dc_L_thins 4 rfl rfl
theorem d_L_thins_7 : dn cL_thins 7 (.iload_n 2) 1 8 := dnAt dc_L_thins 5 rfl rfl
theorem d_L_thins_8 : dn cL_thins 8 (.invokevirtual 131) 3 11 := dnAt dc_L_thins 6 rfl rfl
theorem d_L_thins_11 : dn cL_thins 11 (.istore 4) 2 13 := dnAt dc_L_thins 7 rfl rfl
theorem d_L_thins_13 : dn cL_thins 13 (.iconst 0) 1 14 := dnAt dc_L_thins 8 rfl rfl
theorem d_L_thins_14 : dn cL_thins 14 (.istore 5) 2 16 := dnAt dc_L_thins 9 rfl rfl
theorem d_L_thins_16 : dn cL_thins 16 (.iload 4) 2 18 := dnAt dc_L_thins 10 rfl rfl
theorem d_L_thins_18 : dn cL_thins 18 (.iload_n 3) 1 19 := dnAt dc_L_thins 11 rfl rfl
theorem d_L_thins_19 : dn cL_thins 19 (.if_icmp .gt 26) 3 22 := dnAt dc_L_thins 12 rfl rfl
theorem d_L_thins_22 : dn cL_thins 22 (.iload_n 3) 1 23 := dnAt dc_L_thins 13 rfl rfl
theorem d_L_thins_23 : dn cL_thins 23 (.ifCond .eq 8) 3 26 := dnAt dc_L_thins 14 rfl rfl
theorem d_L_thins_26 : dn cL_thins 26 (.iload 4) 2 28 := dnAt dc_L_thins 15 rfl rfl
theorem d_L_thins_28 : dn cL_thins 28 (.ifCond .le 17) 3 31 := dnAt dc_L_thins 16 rfl rfl
theorem d_L_thins_31 : dn cL_thins 31 (.aload_n 0) 1 32 := dnAt dc_L_thins 17 rfl rfl
theorem d_L_thins_32 : dn cL_thins 32 (.iload_n 2) 1 33 := dnAt dc_L_thins 18 rfl rfl
theorem d_L_thins_33 : dn cL_thins 33 (.invokevirtual 131) 3 36 := dnAt dc_L_thins 19 rfl rfl
theorem d_L_thins_36 : dn cL_thins 36 (.iload 4) 2 38 := dnAt dc_L_thins 20 rfl rfl
theorem d_L_thins_38 : dn cL_thins 38 (.if_icmp .ne 7) 3 41 := dnAt dc_L_thins 21 rfl rfl
theorem d_L_thins_41 : dn cL_thins 41 (.iconst 1) 1 42 := dnAt dc_L_thins 22 rfl rfl
theorem d_L_thins_42 : dn cL_thins 42 (.goto 4) 3 45 := dnAt dc_L_thins 23 rfl rfl
theorem d_L_thins_46 : dn cL_thins 46 (.istore 6) 2 48 := dnAt dc_L_thins 25 rfl rfl
theorem d_L_thins_48 : dn cL_thins 48 (.iconst 0) 1 49 := dnAt dc_L_thins 26 rfl rfl
theorem d_L_thins_49 : dn cL_thins 49 (.istore 7) 2 51 := dnAt dc_L_thins 27 rfl rfl
theorem d_L_thins_51 : dn cL_thins 51 (.iload 7) 2 53 := dnAt dc_L_thins 28 rfl rfl
theorem d_L_thins_53 : dn cL_thins 53 (.iload 4) 2 55 := dnAt dc_L_thins 29 rfl rfl
theorem d_L_thins_55 : dn cL_thins 55 (.if_icmp .ge 53) 3 58 := dnAt dc_L_thins 30 rfl rfl
theorem d_L_thins_58 : dn cL_thins 58 (.iload 6) 2 60 := dnAt dc_L_thins 31 rfl rfl
theorem d_L_thins_60 : dn cL_thins 60 (.ifCond .eq 48) 3 63 := dnAt dc_L_thins 32 rfl rfl
theorem d_L_thins_63 : dn cL_thins 63 (.aload_n 0) 1 64 := dnAt dc_L_thins 33 rfl rfl
theorem d_L_thins_64 : dn cL_thins 64 (.iload_n 2) 1 65 := dnAt dc_L_thins 34 rfl rfl
theorem d_L_thins_65 : dn cL_thins 65 (.iload 7) 2 67 := dnAt dc_L_thins 35 rfl rfl
theorem d_L_thins_67 : dn cL_thins 67 (.invokevirtual 121) 3 70 := dnAt dc_L_thins 36 rfl rfl
theorem d_L_thins_70 : dn cL_thins 70 (.istore 8) 2 72 := dnAt dc_L_thins 37 rfl rfl
theorem d_L_thins_72 : dn cL_thins 72 (.iload 8) 2 74 := dnAt dc_L_thins 38 rfl rfl
theorem d_L_thins_74 : dn cL_thins 74 (.bipush 100) 2 76 := dnAt dc_L_thins 39 rfl rfl
theorem d_L_thins_76 : dn cL_thins 76 (.idiv) 1 77 := dnAt dc_L_thins 40 rfl rfl
theorem d_L_thins_77 : dn cL_thins 77 (.iload 5) 2 79 := dnAt dc_L_thins 41 rfl rfl
theorem d_L_thins_79 : dn cL_thins 79 (.if_icmp .lt 7) 3 82 := dnAt dc_L_thins 42 rfl rfl
theorem d_L_thins_82 : dn cL_thins 82 (.iconst 1) 1 83 := dnAt dc_L_thins 43 rfl rfl
theorem d_L_thins_83 : dn cL_thins 83 (.goto 4) 3 86 := dnAt dc_L_thins 44 rfl rfl
theorem d_L_thins_87 : dn cL_thins 87 (.istore 6) 2 89 := dnAt dc_L_thins 46 rfl rfl
theorem d_L_thins_89 : dn cL_thins 89 (.iload 8) 2 91 := dnAt dc_L_thins 47 rfl rfl
theorem d_L_thins_91 : dn cL_thins 91 (.bipush 100) 2 93 := dnAt dc_L_thins 48 rfl rfl
theorem d_L_thins_93 : dn cL_thins 93 (.idiv) 1 94 := dnAt dc_L_thins 49 rfl rfl
theorem d_L_thins_94 : dn cL_thins 94 (.iload 8) 2 96 := dnAt dc_L_thins 50 rfl rfl
theorem d_L_thins_96 : dn cL_thins 96 (.bipush 100) 2 98 := dnAt dc_L_thins 51 rfl rfl
theorem d_L_thins_98 : dn cL_thins 98 (.irem) 1 99 := dnAt dc_L_thins 52 rfl rfl
theorem d_L_thins_99 : dn cL_thins 99 (.iadd) 1 100 := dnAt dc_L_thins 53 rfl rfl
theorem d_L_thins_100 : dn cL_thins 100 (.istore 5) 2 102 := dnAt dc_L_thins 54 rfl rfl
theorem d_L_thins_102 : dn cL_thins 102 (.iinc 7 1) 3 105 := dnAt dc_L_thins 55 rfl rfl
theorem d_L_thins_105 : dn cL_thins 105 (.goto (-54)) 3 108 := dnAt dc_L_thins 56 rfl rfl
theorem d_L_thins_108 : dn cL_thins 108 (.iload 6) 2 110 := dnAt dc_L_thins 57 rfl rfl
theorem d_L_thins_110 : dn cL_thins 110 (.ifCond .eq 20) 3 113 := dnAt dc_L_thins 58 rfl rfl
theorem d_L_thins_113 : dn cL_thins 113 (.iload 5) 2 115 := dnAt dc_L_thins 59 rfl rfl
theorem d_L_thins_115 : dn cL_thins 115 (.aload_n 1) 1 116 := dnAt dc_L_thins 60 rfl rfl
theorem d_L_thins_116 : dn cL_thins 116 (.aload_n 1) 1 117 := dnAt dc_L_thins 61 rfl rfl
theorem d_L_thins_117 : dn cL_thins 117 (.bipush 12) 2 119 := dnAt dc_L_thins 62 rfl rfl
theorem d_L_thins_119 : dn cL_thins 119 (.iload_n 2) 1 120 := dnAt dc_L_thins 63 rfl rfl
theorem d_L_thins_120 : dn cL_thins 120 (.iadd) 1 121 := dnAt dc_L_thins 64 rfl rfl
theorem d_L_thins_121 : dn cL_thins 121 (.iaload) 1 122 := dnAt dc_L_thins 65 rfl rfl
theorem d_L_thins_122 : dn cL_thins 122 (.iaload) 1 123 := dnAt dc_L_thins 66 rfl rfl
theorem d_L_thins_123 : dn cL_thins 123 (.if_icmp .gt 7) 3 126 := dnAt dc_L_thins 67 rfl rfl
theorem d_L_thins_126 : dn cL_thins 126 (.iconst 1) 1 127 := dnAt dc_L_thins 68 rfl rfl
theorem d_L_thins_127 : dn cL_thins 127 (.goto 4) 3 130 := dnAt dc_L_thins 69 rfl rfl
theorem d_L_thins_131 : dn cL_thins 131 (.ireturn) 1 132 := dnAt dc_L_thins 71 rfl rfl
set_option maxHeartbeats 4000000 in
set_option maxRecDepth 100000 in
theorem lawm_thins {l : Launch} {G : eG} {ad : Nat → Nat → Nat} {g : mS} {f : Nat → Nat} {rs sd : Nat} (hlf : l.stackTraces = false) (hr : rs < 8) (hs : sd < 2) (h20 : mI g 20 rs = nI sd) (h12 : f (12 + rs) = sd) (hf : f sd = mN g 1 sd) : kW l G ad g f yL_thins cL_thins 9 (Option.some Jvm.ClassFile.FieldType.boolean) { frames := 8, cells := 643, slots := 5144, locals := 137 } [.ref (ad 0 0), .ref (ad 101 0), .int (nI rs)] (fun v g' f' => f' = f ∧ v = some (.int (bI true)) ∧ resR g g' ∧ ∀ i, mI g' 20 i = mI g 20 i) := by
  refine kW.of hlf (by decide) (Nat.le_of_ble_eq_true rfl) (Nat.le_of_ble_eq_true rfl) ?_
  intro x LX C A TY
  show VP G x ad g f { frames := 8, cells := 643, slots := 5144, locals := 137 } 643 0 [(0, .ref (ad 0 0)), (1, .ref (ad 101 0)), (2, .int (nI rs))] []
  have h0n : mI g 20 rs ≠ -1 := by rw [h20]; exact nI_ne hs
  refine p_AI (fun A0 => ?_)
  have h40 := A0.1.1 sd hs
  refine p_aload_n C d_L_thins_0 0 rfl ?_
  refine p_iload_n C d_L_thins_1 2 rfl ?_
  refine p_callC (As := [.int (nI rs)]) (B' := 643) C d_L_thins_2 ok_RL_82 (fun l h T X Y m A k => q_size m A k ) rfl rfl (rest := []) rfl (Nat.le_of_ble_eq_true rfl) ⟨by decide, Nat.le_of_ble_eq_true rfl⟩ ⟨(show 643 + 0 ≤ 643 by omega), Nat.le_of_ble_eq_true rfl⟩ (fun v9 g1 e1 => ?_)
  obtain ⟨rfl, e1⟩ := e1
  show VP G x ad g1 f { frames := 8, cells := 643, slots := 5144, locals := 137 } 643 5 [(0, .ref (ad 0 0)), (1, .ref (ad 101 0)), (2, .int (nI rs))] [.int (rSz g ((nI rs)))]
  have h1n : mI g1 20 rs ≠ -1 := by rw [e1.I20]; exact h0n
  refine p_AI (fun A1 => ?_)
  refine p_st (st' := [.int (nI (mSize g rs))]) (by rw [a_size hr h0n]) ?_
  refine p_istore_n C d_L_thins_5 (lv' := [(3, .int (nI (mSize g rs))), (0, .ref (ad 0 0)), (1, .ref (ad 101 0)), (2, .int (nI rs))]) (by decide) rfl ?_
  refine p_aload_n C d_L_thins_6 1 rfl ?_
  refine p_iload_n C d_L_thins_7 3 rfl ?_
  refine p_callX (As := [.int (nI rs)]) (B' := 642) C LX d_L_thins_8 ok_RL_131 (fun l h T X Y hl m A k => q_thin hl m A k (a_isR hr (by first | exact h1n | exact h2n))) (fun _ x => x) rfl rfl (rest := []) rfl (Nat.le_of_ble_eq_true rfl) ⟨by decide, Nat.le_of_ble_eq_true rfl⟩ ⟨(show 642 + 1 ≤ 643 by omega), Nat.le_of_ble_eq_true rfl⟩ (fun v9 g2 e2 => ?_)
  obtain ⟨rfl, e2⟩ := e2
  show VP G x ad g2 f { frames := 8, cells := 643, slots := 5144, locals := 137 } 642 11 [(3, .int (nI (mSize g rs))), (0, .ref (ad 0 0)), (1, .ref (ad 101 0)), (2, .int (nI rs))] [.int (nI (mSize g2 (tn (nI rs))))]
  obtain ⟨R2, I2, t2⟩ := e2
  rw [tn_n (by omega)] at t2
  have h2n : mI g2 20 rs ≠ -1 := by rw [I2]; exact h1n
  have hz : mSize g1 rs = mSize g rs := x_mSize (fun k _ => e1.N21 _)
  have hle := th_le A1.1 hr t2
  have hsz := mSize_le g rs
  refine p_st (st' := [.int (nI (mSize g2 rs))]) (by rw [tn_n (by omega)]) ?_
  refine p_istore C d_L_thins_11 (lv' := [(4, .int (nI (mSize g2 rs))), (3, .int (nI (mSize g rs))), (0, .ref (ad 0 0)), (1, .ref (ad 101 0)), (2, .int (nI rs))]) (by decide) rfl ?_
  refine p_iconst C d_L_thins_13 (v := (nI 0)) rfl ?_
  refine p_istore C d_L_thins_14 (lv' := [(5, .int (nI 0)), (4, .int (nI (mSize g2 rs))), (3, .int (nI (mSize g rs))), (0, .ref (ad 0 0)), (1, .ref (ad 101 0)), (2, .int (nI rs))]) (by decide) rfl ?_
  refine p_iload C d_L_thins_16 1 rfl ?_
  refine p_iload_n C d_L_thins_18 2 rfl ?_
  refine pn_icmp_gt C d_L_thins_19 (tgt := 45) rfl (by omega) (by omega) (fun c_19 => ?_) (fun c_19 => ?_)
  · skip
    exfalso; omega
  · skip
    have join_31 : VP G x ad g2 f { frames := 8, cells := 643, slots := 5144, locals := 137 } 641 31 [(5, .int (nI 0)), (4, .int (nI (mSize g2 rs))), (3, .int (nI (mSize g rs))), (0, .ref (ad 0 0)), (1, .ref (ad 101 0)), (2, .int (nI rs))] [] := by
      refine p_aload_n C d_L_thins_31 3 rfl ?_
      refine p_iload_n C d_L_thins_32 5 rfl ?_
      refine p_callX (As := [.int (nI rs)]) (B' := 640) C LX d_L_thins_33 ok_RL_131 (fun l h T X Y hl m A k => q_thin hl m A k (a_isR hr (by first | exact h1n | exact h2n))) (fun _ x => x) rfl rfl (rest := []) rfl (Nat.le_of_ble_eq_true rfl) ⟨by decide, Nat.le_of_ble_eq_true rfl⟩ ⟨(show 640 + 1 ≤ 641 by omega), Nat.le_of_ble_eq_true rfl⟩ (fun v9 g3 e3 => ?_)
      obtain ⟨rfl, e3⟩ := e3
      show VP G x ad g3 f { frames := 8, cells := 643, slots := 5144, locals := 137 } 640 36 [(5, .int (nI 0)), (4, .int (nI (mSize g2 rs))), (3, .int (nI (mSize g rs))), (0, .ref (ad 0 0)), (1, .ref (ad 101 0)), (2, .int (nI rs))] [.int (nI (mSize g3 (tn (nI rs))))]
      obtain ⟨R3, I3, t3⟩ := e3
      rw [tn_n (by omega)] at t3
      have hz3 := th_sz t2 t3
      have h3s : mI g3 20 rs = nI sd := by rw [I3, I2, e1.I20]; exact h20
      have h3n : mI g3 20 rs ≠ -1 := by rw [h3s]; exact nI_ne hs
      refine p_AI (fun A3 => ?_)
      have hN1 : mN g3 1 sd = mN g 1 sd := by rw [R3.N1, R2.N1, e1.N (by decide)]
      refine p_st (st' := [.int (nI (mSize g3 rs))]) (by rw [tn_n (by omega)]) ?_
      refine p_iload C d_L_thins_36 1 rfl ?_
      refine pn_icmp_ne C d_L_thins_38 (tgt := 45) rfl (by omega) (by omega) (fun c_38 => ?_) (fun c_38 => ?_)
      · skip
        exfalso; omega
      · skip
        refine p_iconst C d_L_thins_41 (v := (bI true)) rfl ?_
        refine p_goto C d_L_thins_42 (tgt := 46) rfl ?_
        refine p_istore C d_L_thins_46 (lv' := [(6, .int (bI true)), (5, .int (nI 0)), (4, .int (nI (mSize g2 rs))), (3, .int (nI (mSize g rs))), (0, .ref (ad 0 0)), (1, .ref (ad 101 0)), (2, .int (nI rs))]) (by decide) rfl ?_
        refine p_iconst C d_L_thins_48 (v := (nI 0)) rfl ?_
        refine p_istore C d_L_thins_49 (lv' := [(7, .int (nI 0)), (6, .int (bI true)), (5, .int (nI 0)), (4, .int (nI (mSize g2 rs))), (3, .int (nI (mSize g rs))), (0, .ref (ad 0 0)), (1, .ref (ad 101 0)), (2, .int (nI rs))]) (by decide) rfl ?_
        have loop_51 : ∀ (fuel : Nat) (en : Nat) (k : Nat) (gq : mS), (k ≤ mSize g2 rs) → (eqv g3 gq) → (en ≤ mN g 1 sd) → (k < mSize g2 rs → en ≤ fdM g3 rs k 360 / 100) → (mSize g2 rs + 1 - k) < fuel → VP G x ad gq f { frames := 8, cells := 643, slots := 5144, locals := 137 } (2 * (320 - k)) 51 [(7, .int (nI k)), (6, .int (bI true)), (5, .int (nI en)), (4, .int (nI (mSize g2 rs))), (0, .ref (ad 0 0)), (1, .ref (ad 101 0)), (2, .int (nI rs))] [] := by
          intro fuel
          induction fuel with
          | zero => intro en k gq hk hE hen ho hf9; exact absurd hf9 (Nat.not_lt_zero _)
          | succ fuel ih_51 =>
            intro en k gq hk hE hen ho hf9
            refine p_iload C d_L_thins_51 0 rfl ?_
            refine p_iload C d_L_thins_53 3 rfl ?_
            refine pn_icmp_ge C d_L_thins_55 (tgt := 108) rfl (by omega) (by omega) (fun c_55 => ?_) (fun c_55 => ?_)
            · skip
              refine p_iload C d_L_thins_108 1 rfl ?_
              refine pb_if_eq C d_L_thins_110 (tgt := 130) rfl (fun c_110 => ?_) (fun c_110 => ?_)
              · skip
                cases c_110
              · skip
                refine p_iload C d_L_thins_113 2 rfl ?_
                refine p_aload_n C d_L_thins_115 5 rfl ?_
                refine p_aload_n C d_L_thins_116 5 rfl ?_
                refine p_bipush C d_L_thins_117 (v := (nI 12)) rfl ?_
                refine p_iload_n C d_L_thins_119 6 rfl ?_
                refine pn_iadd C d_L_thins_120 ?_
                refine p_cld C d_L_thins_121 (by omega) ?_
                refine p_st (st' := [.int (nI sd), .ref (ad 101 0), .int (nI en)]) (by rw [h12]) ?_
                refine p_cld C d_L_thins_122 (by omega) ?_
                refine p_st (st' := [.int (nI (mN g 1 sd)), .int (nI en)]) (by rw [hf]) ?_
                refine pn_icmp_gt C d_L_thins_123 (tgt := 130) rfl (by omega) (by omega) (fun c_123 => ?_) (fun c_123 => ?_)
                · skip
                  exfalso; omega
                · skip
                  refine p_iconst C d_L_thins_126 (v := (bI true)) rfl ?_
                  refine p_goto C d_L_thins_127 (tgt := 131) rfl ?_
                  exact p_iret C A TY d_L_thins_131 rfl (⟨rfl, rfl, (((e1.res.tr R2).tr R3).tr hE.res), fun i => by rw [hE.I20, I3, I2, e1.I20]⟩)
            · skip
              refine p_iload C d_L_thins_58 1 rfl ?_
              refine pb_if_eq C d_L_thins_60 (tgt := 108) rfl (fun c_60 => ?_) (fun c_60 => ?_)
              · skip
                cases c_60
              · skip
                refine p_B (B' := 2 * (320 - (k + 1)) + 2) (by omega) ?_
                obtain ⟨w1, w2⟩ := th_loop A3.1 hr hs h3s (th_same t2 t3) (k := k) (by omega)
                have ho := ho (by omega)
                rw [hN1] at w1
                refine p_aload_n C d_L_thins_63 4 rfl ?_
                refine p_iload_n C d_L_thins_64 6 rfl ?_
                refine p_iload C d_L_thins_65 0 rfl ?_
                refine p_callX (As := [.int (nI rs), .int (nI k)]) (B' := 2 * (320 - (k + 1))) C LX d_L_thins_67 ok_RL_121 (fun l h T X Y hl m A k => q_match hl m A k (a_matE hE hr h3n (by omega)).1) (fun _ x => x) rfl rfl (rest := []) rfl (Nat.le_of_ble_eq_true rfl) ⟨by decide, Nat.le_of_ble_eq_true rfl⟩ ⟨(show 2 * (320 - (k + 1)) + 2 ≤ 2 * (320 - (k + 1)) + 2 by omega), Nat.le_of_ble_eq_true rfl⟩ (fun v9 g4 e4 => ?_)
                obtain ⟨rfl, eM⟩ := e4
                show VP G x ad g4 f { frames := 8, cells := 643, slots := 5144, locals := 137 } (2 * (320 - (k + 1))) 70 [(7, .int (nI k)), (6, .int (bI true)), (5, .int (nI en)), (4, .int (nI (mSize g2 rs))), (0, .ref (ad 0 0)), (1, .ref (ad 101 0)), (2, .int (nI rs))] [.int (nI (rMatch gq (nI rs) (nI k)))]
                refine p_st (st' := [.int (nI (fdM g3 rs k 360))]) (by rw [(a_matE hE hr h3n (by omega)).2]) ?_
                refine p_istore C d_L_thins_70 (lv' := [(8, .int (nI (fdM g3 rs k 360))), (7, .int (nI k)), (6, .int (bI true)), (5, .int (nI en)), (4, .int (nI (mSize g2 rs))), (0, .ref (ad 0 0)), (1, .ref (ad 101 0)), (2, .int (nI rs))]) (by decide) rfl ?_
                refine p_iload C d_L_thins_72 0 rfl ?_
                refine p_bipush C d_L_thins_74 (v := (nI 100)) rfl ?_
                refine pn_idiv C d_L_thins_76 (by omega) (by omega) (by omega) ?_
                refine p_iload C d_L_thins_77 3 rfl ?_
                refine pn_icmp_lt C d_L_thins_79 (tgt := 86) rfl (by omega) (by omega) (fun c_79 => ?_) (fun c_79 => ?_)
                · skip
                  exfalso; omega
                · skip
                  refine p_iconst C d_L_thins_82 (v := (bI true)) rfl ?_
                  refine p_goto C d_L_thins_83 (tgt := 87) rfl ?_
                  refine p_istore C d_L_thins_87 (lv' := [(6, .int (bI true)), (8, .int (nI (fdM g3 rs k 360))), (7, .int (nI k)), (5, .int (nI en)), (4, .int (nI (mSize g2 rs))), (0, .ref (ad 0 0)), (1, .ref (ad 101 0)), (2, .int (nI rs))]) (by decide) rfl ?_
                  refine p_iload C d_L_thins_89 1 rfl ?_
                  refine p_bipush C d_L_thins_91 (v := (nI 100)) rfl ?_
                  refine pn_idiv C d_L_thins_93 (by omega) (by omega) (by omega) ?_
                  refine p_iload C d_L_thins_94 1 rfl ?_
                  refine p_bipush C d_L_thins_96 (v := (nI 100)) rfl ?_
                  refine pn_irem C d_L_thins_98 (by omega) (by omega) (by omega) ?_
                  refine pn_iadd C d_L_thins_99 ?_
                  refine p_istore C d_L_thins_100 (lv' := [(5, .int (nI (((fdM g3 rs k 360) / 100) + ((fdM g3 rs k 360) % 100)))), (6, .int (bI true)), (8, .int (nI (fdM g3 rs k 360))), (7, .int (nI k)), (4, .int (nI (mSize g2 rs))), (0, .ref (ad 0 0)), (1, .ref (ad 101 0)), (2, .int (nI rs))]) (by decide) rfl ?_
                  refine pn_iinc C d_L_thins_102 (lv' := [(7, .int (nI (k + 1))), (5, .int (nI (((fdM g3 rs k 360) / 100) + ((fdM g3 rs k 360) % 100)))), (6, .int (bI true)), (8, .int (nI (fdM g3 rs k 360))), (4, .int (nI (mSize g2 rs))), (0, .ref (ad 0 0)), (1, .ref (ad 101 0)), (2, .int (nI rs))]) 3 rfl (nI_inc _ rfl) (by decide) rfl ?_
                  refine p_goto C d_L_thins_105 (tgt := 51) rfl ?_
                  refine p_lv (lv' := [(7, .int (nI (k + 1))), (6, .int (bI true)), (5, .int (nI (((fdM g3 rs k 360) / 100) + ((fdM g3 rs k 360) % 100)))), (4, .int (nI (mSize g2 rs))), (0, .ref (ad 0 0)), (1, .ref (ad 101 0)), (2, .int (nI rs))]) [0, 2, 1, 4, 5, 6, 7] rfl ?_
                  exact ih_51 (((fdM g3 rs k 360) / 100) + ((fdM g3 rs k 360) % 100)) (k + 1) g4 (by omega) (hE.tr eM) (by have := w1.1; omega) (fun z => w2 (by omega)) (by omega)
        refine p_B (B' := 2 * (320 - 0)) (by omega) ?_
        refine p_lv (lv' := [(7, .int (nI 0)), (6, .int (bI true)), (5, .int (nI 0)), (4, .int (nI (mSize g2 rs))), (0, .ref (ad 0 0)), (1, .ref (ad 101 0)), (2, .int (nI rs))]) [0, 1, 2, 3, 5, 6, 7] rfl ?_
        exact loop_51 _ 0 0 g3 (by omega) (eqv_rf _) (by omega) (by omega) (Nat.lt_succ_self _)
    refine p_iload_n C d_L_thins_22 2 rfl ?_
    refine pn_if_eq C d_L_thins_23 (tgt := 31) rfl (by omega) (fun c_23 => ?_) (fun c_23 => ?_)
    · skip
      refine p_B (B' := 641) (by omega) ?_
      exact join_31  
    · skip
      refine p_iload C d_L_thins_26 1 rfl ?_
      refine pn_if_le C d_L_thins_28 (tgt := 45) rfl (by omega) (fun c_28 => ?_) (fun c_28 => ?_)
      · skip
        exfalso; have := th_pos A1.1 hr t2 (by omega); omega
      · skip
        refine p_B (B' := 641) (by omega) ?_
        exact join_31  
