theorem tw_201 : (Jvm.Cond.methodLink "CorpuslineLaw" (82 : Nat) ({ cls := "Corpusline", name := "size", desc := "(I)I" } : Jvm.MethodName)) ∈ TB := tb_of 201 (by decide +kernel) rfl
theorem tw_202 : (Jvm.Cond.instanceMethod ({ cls := "Corpusline", name := "size", desc := "(I)I" } : Jvm.MethodName)) ∈ TB := tb_of 202 (by decide +kernel) rfl
theorem tw_203 : (Jvm.Cond.selects "Corpusline" ({ cls := "Corpusline", name := "size", desc := "(I)I" } : Jvm.MethodName) ({ cls := "Corpusline", name := "size", desc := "(I)I" } : Jvm.MethodName)) ∈ TB := tb_of 203 (by decide +kernel) rfl
theorem tw_204 : (Jvm.Cond.code ({ cls := "Corpusline", name := "size", desc := "(I)I" } : Jvm.MethodName) prog_1_method_24_code (2 : Nat) (Option.some Jvm.ClassFile.FieldType.int)) ∈ TB := tb_of 204 (by decide +kernel) rfl
theorem tw_595 : (Jvm.Cond.methodLink "CorpuslineLaw" (134 : Nat) ({ cls := "Corpusline", name := "groups", desc := "(IIZ)I" } : Jvm.MethodName)) ∈ TB := tb_of 595 (by decide +kernel) rfl
theorem tw_596 : (Jvm.Cond.instanceMethod ({ cls := "Corpusline", name := "groups", desc := "(IIZ)I" } : Jvm.MethodName)) ∈ TB := tb_of 596 (by decide +kernel) rfl
theorem tw_597 : (Jvm.Cond.selects "Corpusline" ({ cls := "Corpusline", name := "groups", desc := "(IIZ)I" } : Jvm.MethodName) ({ cls := "Corpusline", name := "groups", desc := "(IIZ)I" } : Jvm.MethodName)) ∈ TB := tb_of 597 (by decide +kernel) rfl
theorem tw_598 : (Jvm.Cond.code ({ cls := "Corpusline", name := "groups", desc := "(IIZ)I" } : Jvm.MethodName) prog_1_method_26_code (7 : Nat) (Option.some Jvm.ClassFile.FieldType.int)) ∈ TB := tb_of 598 (by decide +kernel) rfl
theorem tw_603 : (Jvm.Cond.constant "CorpuslineLaw" (136 : Nat) (1000000 : Int32)) ∈ TB := tb_of 603 (by decide +kernel) rfl
theorem tw_604 : (Jvm.Cond.methodLink "CorpuslineLaw" (137 : Nat) ({ cls := "Corpusline", name := "groupAt", desc := "(IIZI)I" } : Jvm.MethodName)) ∈ TB := tb_of 604 (by decide +kernel) rfl
theorem tw_605 : (Jvm.Cond.instanceMethod ({ cls := "Corpusline", name := "groupAt", desc := "(IIZI)I" } : Jvm.MethodName)) ∈ TB := tb_of 605 (by decide +kernel) rfl
theorem tw_606 : (Jvm.Cond.selects "Corpusline" ({ cls := "Corpusline", name := "groupAt", desc := "(IIZI)I" } : Jvm.MethodName) ({ cls := "Corpusline", name := "groupAt", desc := "(IIZI)I" } : Jvm.MethodName)) ∈ TB := tb_of 606 (by decide +kernel) rfl
theorem tw_607 : (Jvm.Cond.code ({ cls := "Corpusline", name := "groupAt", desc := "(IIZI)I" } : Jvm.MethodName) prog_1_method_27_code (7 : Nat) (Option.some Jvm.ClassFile.FieldType.int)) ∈ TB := tb_of 607 (by decide +kernel) rfl
theorem ok_RL_82 : okV RL 82 yX6_size cX6_size 2 (Option.some Jvm.ClassFile.FieldType.int) 1 := ⟨tw_201, tw_202, tw_203, tw_1, tw_204, ⟨by decide, by decide, by decide +kernel⟩⟩
theorem ok_RL_134 : okV RL 134 yX6_groups cX6_groups 7 (Option.some Jvm.ClassFile.FieldType.int) 3 := ⟨tw_595, tw_596, tw_597, tw_1, tw_598, ⟨by decide, by decide, by decide +kernel⟩⟩
theorem ok_RL_137 : okV RL 137 yX6_groupAt cX6_groupAt 7 (Option.some Jvm.ClassFile.FieldType.int) 4 := ⟨tw_604, tw_605, tw_606, tw_1, tw_607, ⟨by decide, by decide, by decide +kernel⟩⟩
def dl_L_groups : List (Nat × Instr × Nat) := [(0, .aload_n 0, 1), (1, .iload_n 1, 1), (2, .iload_n 2, 1), (3, .iload_n 3, 1), (4, .invokevirtual 134, 3), (7, .istore 4, 2), (9, .iconst 0, 1), (10, .istore 5, 2), (12, .ldc 136, 2), (14, .istore 6, 2), (16, .iload 4, 2), (18, .ifCond .lt 17, 3), (21, .iload 4, 2), (23, .aload_n 0, 1), (24, .iload_n 1, 1), (25, .invokevirtual 82, 3), (28, .if_icmp .gt 7, 3), (31, .iconst 1, 1), (32, .goto 4, 3), (35, .iconst 0, 1), (36, .istore 7, 2), (38, .iconst 0, 1), (39, .istore 8, 2), (41, .iload 8, 2), (43, .iload 4, 2), (45, .if_icmp .ge 94, 3), (48, .iload 7, 2), (50, .ifCond .eq 89, 3), (53, .aload_n 0, 1), (54, .iload_n 1, 1), (55, .iload_n 2, 1), (56, .iload_n 3, 1), (57, .iload 8, 2), (59, .invokevirtual 137, 3), (62, .istore 9, 2), (64, .iload 9, 2), (66, .sipush 1000, 3), (69, .idiv, 1), (70, .iconst 1, 1), (71, .if_icmp .lt 44, 3), (74, .iload 9, 2), (76, .sipush 1000, 3), (79, .idiv, 1), (80, .iload 6, 2), (82, .sipush 1000, 3), (85, .idiv, 1), (86, .if_icmp .lt 25, 3), (89, .iload 9, 2), (91, .sipush 1000, 3), (94, .idiv, 1), (95, .iload 6, 2), (97, .sipush 1000, 3), (100, .idiv, 1), (101, .if_icmp .ne 14, 3), (104, .iload 9, 2), (106, .iload 6, 2), (108, .if_icmp .le 7, 3), (111, .iconst 1, 1), (112, .goto 4, 3), (115, .iconst 0, 1), (116, .istore 7, 2), (118, .iload 5, 2), (120, .iload 9, 2), (122, .sipush 1000, 3), (125, .idiv, 1), (126, .iadd, 1), (127, .istore 5, 2), (129, .iload 9, 2), (131, .istore 6, 2), (133, .iinc 8 1, 3), (136, .goto (-95), 3), (139, .iload 7, 2), (141, .ifCond .eq 17, 3), (144, .iload 5, 2), (146, .aload_n 0, 1), (147, .iload_n 1, 1), (148, .invokevirtual 82, 3), (151, .if_icmp .ne 7, 3), (154, .iconst 1, 1), (155, .goto 4, 3), (158, .iconst 0, 1), (159, .ireturn, 1)]
theorem dc_L_groups : dnL cL_groups dl_L_groups = true := by decide +kernel
theorem d_L_groups_0 : dn cL_groups 0 (.aload_n 0) 1 1 := dnAt dc_L_groups 0 rfl rfl
theorem d_L_groups_1 : dn cL_groups 1 (.iload_n 1) 1 2 := dnAt dc_L_groups 1 rfl rfl
theorem d_L_groups_2 : dn cL_groups 2 (.iload_n 2) 1 3 := dnAt dc_L_groups 2 rfl rfl
theorem d_L_groups_3 : dn cL_groups 3 (.iload_n 3) 1 4 := dnAt dc_L_groups 3 rfl rfl
theorem d_L_groups_4 : dn cL_groups 4 (.invokevirtual 134) 3 7 := dnAt dc_L_groups 4 rfl rfl
theorem d_L_groups_7 : dn cL_groups 7 (.istore 4) 2 9 := dnAt dc_L_groups 5 rfl rfl
theorem d_L_groups_9 : dn cL_groups 9 (.iconst 0) 1 10 := dnAt dc_L_groups 6 rfl rfl
theorem d_L_groups_10 : dn cL_groups 10 (.istore 5) 2 12 := dnAt dc_L_groups 7 rfl rfl
theorem d_L_groups_12 : dn cL_groups 12 (.ldc 136) 2 14 := dnAt dc_L_groups 8 rfl rfl
theorem d_L_groups_14 : dn cL_groups 14 (.istore 6) 2 16 := dnAt dc_L_groups 9 rfl rfl
theorem d_L_groups_16 : dn cL_groups 16 (.iload 4) 2 18 := dnAt dc_L_groups 10 rfl rfl
theorem d_L_groups_18 : dn cL_groups 18 (.ifCond .lt 17) 3 21 := dnAt dc_L_groups 11 rfl rfl
theorem d_L_groups_21 : dn cL_groups 21 (.iload 4) 2 23 := dnAt dc_L_groups 12 rfl rfl
theorem d_L_groups_23 : dn cL_groups 23 (.aload_n 0) 1 24 := dnAt dc_L_groups 13 rfl rfl
theorem d_L_groups_24 : dn cL_groups 24 (.iload_n 1) 1 25 := dnAt dc_L_groups 14 rfl rfl
theorem d_L_groups_25 : dn cL_groups 25 (.invokevirtual 82) 3 28 := dnAt dc_L_groups 15 rfl rfl
theorem d_L_groups_28 : dn cL_groups 28 (.if_icmp .gt 7) 3 31 := dnAt dc_L_groups 16 rfl rfl
theorem d_L_groups_31 : dn cL_groups 31 (.iconst 1) 1 32 := dnAt dc_L_groups 17 rfl rfl
theorem d_L_groups_32 : dn cL_groups 32 (.goto 4) 3 35 := dnAt dc_L_groups 18 rfl rfl
theorem d_L_groups_36 : dn cL_groups 36 (.istore 7) 2 38 := dnAt dc_L_groups 20 rfl rfl
theorem d_L_groups_38 : dn cL_groups 38 (.iconst 0) 1 39 := dnAt dc_L_groups 21 rfl rfl
theorem d_L_groups_39 : dn cL_groups 39 (.istore 8) 2 41 := dnAt dc_L_groups 22 rfl rfl
theorem d_L_groups_41 : dn cL_groups 41 (.iload 8) 2 43 := dnAt dc_L_groups 23 rfl rfl
theorem d_L_groups_43 : dn cL_groups 43 (.iload 4) 2 45 := dnAt dc_L_groups 24 rfl rfl
theorem d_L_groups_45 : dn cL_groups 45 (.if_icmp .ge 94) 3 48 := dnAt dc_L_groups 25 rfl rfl
theorem d_L_groups_48 : dn cL_groups 48 (.iload 7) 2 50 := dnAt dc_L_groups 26 rfl rfl
theorem d_L_groups_50 : dn cL_groups 50 (.ifCond .eq 89) 3 53 := dnAt dc_L_groups 27 rfl rfl
theorem d_L_groups_53 : dn cL_groups 53 (.aload_n 0) 1 54 := dnAt dc_L_groups 28 rfl rfl
theorem d_L_groups_54 : dn cL_groups 54 (.iload_n 1) 1 55 := dnAt dc_L_groups 29 rfl rfl
theorem d_L_groups_55 : dn cL_groups 55 (.iload_n 2) 1 56 := dnAt dc_L_groups 30 rfl rfl
theorem d_L_groups_56 : dn cL_groups 56 (.iload_n 3) 1 57 := dnAt dc_L_groups 31 rfl rfl
theorem d_L_groups_57 : dn cL_groups 57 (.iload 8) 2 59 := dnAt dc_L_groups 32 rfl rfl
theorem d_L_groups_59 : dn cL_groups 59 (.invokevirtual 137) 3 62 := dnAt dc_L_groups 33 rfl rfl
theorem d_L_groups_62 : dn cL_groups 62 (.istore 9) 2 64 := dnAt dc_L_groups 34 rfl rfl
theorem d_L_groups_64 : dn cL_groups 64 (.iload 9) 2 66 := dnAt dc_L_groups 35 rfl rfl
theorem d_L_groups_66 : dn cL_groups 66 (.sipush 1000) 3 69 := dnAt dc_L_groups 36 rfl rfl
theorem d_L_groups_69 : dn cL_groups 69 (.idiv) 1 70 := dnAt dc_L_groups 37 rfl rfl
theorem d_L_groups_70 : dn cL_groups 70 (.iconst 1) 1 71 := dnAt dc_L_groups 38 rfl rfl
theorem d_L_groups_71 : dn cL_groups 71 (.if_icmp .lt 44) 3 74 := dnAt dc_L_groups 39 rfl rfl
theorem d_L_groups_74 : dn cL_groups 74 (.iload 9) 2 76 := dnAt dc_L_groups 40 rfl rfl
theorem d_L_groups_76 : dn cL_groups 76 (.sipush 1000) 3 79 := dnAt dc_L_groups 41 rfl rfl
theorem d_L_groups_79 : dn cL_groups 79 (.idiv) 1 80 := dnAt dc_L_groups 42 rfl rfl
theorem d_L_groups_80 : dn cL_groups 80 (.iload 6) 2 82 := dnAt dc_L_groups 43 rfl rfl
theorem d_L_groups_82 : dn cL_groups 82 (.sipush 1000) 3 85 := dnAt dc_L_groups 44 rfl rfl
theorem d_L_groups_85 : dn cL_groups 85 (.idiv) 1 86 := dnAt dc_L_groups 45 rfl rfl
theorem d_L_groups_86 : dn cL_groups 86 (.if_icmp .lt 25) 3 89 := dnAt dc_L_groups 46 rfl rfl
theorem d_L_groups_89 : dn cL_groups 89 (.iload 9) 2 91 := dnAt dc_L_groups 47 rfl rfl
theorem d_L_groups_91 : dn cL_groups 91 (.sipush 1000) 3 94 := dnAt dc_L_groups 48 rfl rfl
theorem d_L_groups_94 : dn cL_groups 94 (.idiv) 1 95 := dnAt dc_L_groups 49 rfl rfl
theorem d_L_groups_95 : dn cL_groups 95 (.iload 6) 2 97 := dnAt dc_L_groups 50 rfl rfl
theorem d_L_groups_97 : dn cL_groups 97 (.sipush 1000) 3 100 := dnAt dc_L_groups 51 rfl rfl
theorem d_L_groups_100 : dn cL_groups 100 (.idiv) 1 101 := dnAt dc_L_groups 52 rfl rfl
theorem d_L_groups_101 : dn cL_groups 101 (.if_icmp .ne 14) 3 104 := dnAt dc_L_groups 53 rfl rfl
theorem d_L_groups_104 : dn cL_groups 104 (.iload 9) 2 106 := dnAt dc_L_groups 54 rfl rfl
theorem d_L_groups_106 : dn cL_groups 106 (.iload 6) 2 108 := dnAt dc_L_groups 55 rfl rfl
theorem d_L_groups_108 : dn cL_groups 108 (.if_icmp .le 7) 3 111 := dnAt dc_L_groups 56 rfl rfl
theorem d_L_groups_111 : dn cL_groups 111 (.iconst 1) 1 112 := dnAt dc_L_groups 57 rfl rfl
theorem d_L_groups_112 : dn cL_groups 112 (.goto 4) 3 115 := dnAt dc_L_groups 58 rfl rfl
theorem d_L_groups_116 : dn cL_groups 116 (.istore 7) 2 118 := dnAt dc_L_groups 60 rfl rfl
theorem d_L_groups_118 : dn cL_groups 118 (.iload 5) 2 120 := dnAt dc_L_groups 61 rfl rfl
theorem d_L_groups_120 : dn cL_groups 120 (.iload 9) 2 122 := dnAt dc_L_groups 62 rfl rfl
theorem d_L_groups_122 : dn cL_groups 122 (.sipush 1000) 3 125 := dnAt dc_L_groups 63 rfl rfl
theorem d_L_groups_125 : dn cL_groups 125 (.idiv) 1 126 := dnAt dc_L_groups 64 rfl rfl
theorem d_L_groups_126 : dn cL_groups 126 (.iadd) 1 127 := dnAt dc_L_groups 65 rfl rfl
theorem d_L_groups_127 : dn cL_groups 127 (.istore 5) 2 129 := dnAt dc_L_groups 66 rfl rfl
theorem d_L_groups_129 : dn cL_groups 129 (.iload 9) 2 131 := dnAt dc_L_groups 67 rfl rfl
theorem d_L_groups_131 : dn cL_groups 131 (.istore 6) 2 133 := dnAt dc_L_groups 68 rfl rfl
theorem d_L_groups_133 : dn cL_groups 133 (.iinc 8 1) 3 136 := dnAt dc_L_groups 69 rfl rfl
theorem d_L_groups_136 : dn cL_groups 136 (.goto (-95)) 3 139 := dnAt dc_L_groups 70 rfl rfl
theorem d_L_groups_139 : dn cL_groups 139 (.iload 7) 2 141 := dnAt dc_L_groups 71 rfl rfl
theorem d_L_groups_141 : dn cL_groups 141 (.ifCond .eq 17) 3 144 := dnAt dc_L_groups 72 rfl rfl
theorem d_L_groups_144 : dn cL_groups 144 (.iload 5) 2 146 := dnAt dc_L_groups 73 rfl rfl
theorem d_L_groups_146 : dn cL_groups 146 (.aload_n 0) 1 147 := dnAt dc_L_groups 74 rfl rfl
theorem d_L_groups_147 : dn cL_groups 147 (.iload_n 1) 1 148 := dnAt dc_L_groups 75 rfl rfl
theorem d_L_groups_148 : dn cL_groups 148 (.invokevirtual 82) 3 151 := dnAt dc_L_groups 76 rfl rfl
theorem d_L_groups_151 : dn cL_groups 151 (.if_icmp .ne 7) 3 154 := dnAt dc_L_groups 77 rfl rfl
theorem d_L_groups_154 : dn cL_groups 154 (.iconst 1) 1 155 := dnAt dc_L_groups 78 rfl rfl
theorem d_L_groups_155 : dn cL_groups 155 (.goto 4) 3 158 := dnAt dc_L_groups 79 rfl rfl
theorem d_L_groups_159 : dn cL_groups 159 (.ireturn) 1 160 := dnAt dc_L_groups 81 rfl rfl
set_option maxHeartbeats 4000000 in
set_option maxRecDepth 100000 in
theorem lawm_groups {l : Launch} {G : eG} {ad : Nat → Nat → Nat} {g : mS} {f : Nat → Nat} {rs at_ : Nat} {L : Bool} (hlf : l.stackTraces = false) (hr : rs < 8) (h20 : mI g 20 rs ≠ -1) (ha : at_ < 3) : kW l G ad g f yL_groups cL_groups 10 (Option.some Jvm.ClassFile.FieldType.boolean) { frames := 8, cells := 1083, slots := 8664, locals := 138 } [.ref (ad 0 0), .int (nI rs), .int (nI at_), .int (bI L)] (fun v g' f' => f' = f ∧ v = some (.int (bI true)) ∧ eqv g g') := by
  refine kW.of hlf (by decide) (Nat.le_of_ble_eq_true rfl) (Nat.le_of_ble_eq_true rfl) ?_
  intro x LX C A TY
  show VP G x ad g f { frames := 8, cells := 1083, slots := 8664, locals := 138 } 1083 0 [(0, .ref (ad 0 0)), (1, .int (nI rs)), (2, .int (nI at_)), (3, .int (bI L))] []
  refine p_AI (fun A0 => ?_)
  obtain ⟨gf1, gf2, gf3⟩ := gr_facts A0.1 (L := L) hr h20 ha
  have hsz := mSize_le g rs
  refine p_aload_n C d_L_groups_0 0 rfl ?_
  refine p_iload_n C d_L_groups_1 1 rfl ?_
  refine p_iload_n C d_L_groups_2 2 rfl ?_
  refine p_iload_n C d_L_groups_3 3 rfl ?_
  refine p_callX (As := [.int (nI rs), .int (nI at_), .int (bI L)]) (B' := 1081) C LX d_L_groups_4 ok_RL_134 (fun l h T X Y hl m A k => q_groups hl m A k (a_cGr hr h20 ha)) (fun _ x => x) rfl rfl (rest := []) rfl (Nat.le_of_ble_eq_true rfl) ⟨by decide, Nat.le_of_ble_eq_true rfl⟩ ⟨(show 1081 + 2 ≤ 1083 by omega), Nat.le_of_ble_eq_true rfl⟩ (fun v9 g1 e1 => ?_)
  obtain ⟨rfl, e1⟩ := e1
  show VP G x ad g1 f { frames := 8, cells := 1083, slots := 8664, locals := 138 } 1081 7 [(0, .ref (ad 0 0)), (1, .int (nI rs)), (2, .int (nI at_)), (3, .int (bI L))] [.int (nI (rGr g (nI rs) (nI at_) L))]
  refine p_st (st' := [.int (nI (ndM g rs at_ L 360))]) (by rw [a_gr hr h20 ha]) ?_
  refine p_istore C d_L_groups_7 (lv' := [(4, .int (nI (ndM g rs at_ L 360))), (0, .ref (ad 0 0)), (1, .int (nI rs)), (2, .int (nI at_)), (3, .int (bI L))]) (by decide) rfl ?_
  refine p_iconst C d_L_groups_9 (v := (nI 0)) rfl ?_
  refine p_istore C d_L_groups_10 (lv' := [(5, .int (nI 0)), (4, .int (nI (ndM g rs at_ L 360))), (0, .ref (ad 0 0)), (1, .int (nI rs)), (2, .int (nI at_)), (3, .int (bI L))]) (by decide) rfl ?_
  refine p_ldc C d_L_groups_12 (v := (1000000 : Int32)) tw_603 ?_
  refine p_st (st' := [.int (nI 1000000)]) (rfl) ?_
  refine p_istore C d_L_groups_14 (lv' := [(6, .int (nI 1000000)), (5, .int (nI 0)), (4, .int (nI (ndM g rs at_ L 360))), (0, .ref (ad 0 0)), (1, .int (nI rs)), (2, .int (nI at_)), (3, .int (bI L))]) (by decide) rfl ?_
  refine p_iload C d_L_groups_16 2 rfl ?_
  refine pn_if_lt C d_L_groups_18 (tgt := 35) rfl (by omega) (fun c_18 => ?_) (fun c_18 => ?_)
  · skip
    exact c_18.elim
  · skip
    refine p_iload C d_L_groups_21 2 rfl ?_
    refine p_aload_n C d_L_groups_23 3 rfl ?_
    refine p_iload_n C d_L_groups_24 4 rfl ?_
    refine p_callC (As := [.int (nI rs)]) (B' := 1081) C d_L_groups_25 ok_RL_82 (fun l h T X Y m A k => q_size m A k ) rfl rfl (rest := [.int (nI (ndM g rs at_ L 360))]) rfl (Nat.le_of_ble_eq_true rfl) ⟨by decide, Nat.le_of_ble_eq_true rfl⟩ ⟨(show 1081 + 0 ≤ 1081 by omega), Nat.le_of_ble_eq_true rfl⟩ (fun v9 g2 e2 => ?_)
    obtain ⟨rfl, e2⟩ := e2
    show VP G x ad g2 f { frames := 8, cells := 1083, slots := 8664, locals := 138 } 1081 28 [(6, .int (nI 1000000)), (5, .int (nI 0)), (4, .int (nI (ndM g rs at_ L 360))), (0, .ref (ad 0 0)), (1, .int (nI rs)), (2, .int (nI at_)), (3, .int (bI L))] [.int (rSz g1 ((nI rs))), .int (nI (ndM g rs at_ L 360))]
    refine p_st (st' := [.int (nI (mSize g rs)), .int (nI (ndM g rs at_ L 360))]) (by rw [a_sizeE e1 hr h20]) ?_
    refine pn_icmp_gt C d_L_groups_28 (tgt := 35) rfl (by omega) (by omega) (fun c_28 => ?_) (fun c_28 => ?_)
    · skip
      exfalso; omega
    · skip
      refine p_iconst C d_L_groups_31 (v := (bI true)) rfl ?_
      refine p_goto C d_L_groups_32 (tgt := 36) rfl ?_
      refine p_istore C d_L_groups_36 (lv' := [(7, .int (bI true)), (6, .int (nI 1000000)), (5, .int (nI 0)), (4, .int (nI (ndM g rs at_ L 360))), (0, .ref (ad 0 0)), (1, .int (nI rs)), (2, .int (nI at_)), (3, .int (bI L))]) (by decide) rfl ?_
      refine p_iconst C d_L_groups_38 (v := (nI 0)) rfl ?_
      refine p_istore C d_L_groups_39 (lv' := [(8, .int (nI 0)), (7, .int (bI true)), (6, .int (nI 1000000)), (5, .int (nI 0)), (4, .int (nI (ndM g rs at_ L 360))), (0, .ref (ad 0 0)), (1, .int (nI rs)), (2, .int (nI at_)), (3, .int (bI L))]) (by decide) rfl ?_
      have loop_41 : ∀ (fuel : Nat) (sm : Nat) (la : Nat) (k : Nat) (gq : mS), (k ≤ ndM g rs at_ L 360) → (sm = sumTo (fun k => gW g rs at_ L k / 1000) k) → (eqv g gq) → (la ≤ 1000000) → (k < ndM g rs at_ L 360 → gW g rs at_ L k / 1000 < la / 1000 ∨ gW g rs at_ L k / 1000 = la / 1000 ∧ la < gW g rs at_ L k) → (ndM g rs at_ L 360 + 1 - k) < fuel → VP G x ad gq f { frames := 8, cells := 1083, slots := 8664, locals := 138 } (3 * (360 - k)) 41 [(8, .int (nI k)), (7, .int (bI true)), (6, .int (nI la)), (5, .int (nI sm)), (4, .int (nI (ndM g rs at_ L 360))), (0, .ref (ad 0 0)), (1, .int (nI rs)), (2, .int (nI at_)), (3, .int (bI L))] [] := by
        intro fuel
        induction fuel with
        | zero => intro sm la k gq hk hs hE hla ho hf9; exact absurd hf9 (Nat.not_lt_zero _)
        | succ fuel ih_41 =>
          intro sm la k gq hk hs hE hla ho hf9
          refine p_iload C d_L_groups_41 0 rfl ?_
          refine p_iload C d_L_groups_43 4 rfl ?_
          refine pn_icmp_ge C d_L_groups_45 (tgt := 139) rfl (by omega) (by omega) (fun c_45 => ?_) (fun c_45 => ?_)
          · skip
            refine p_iload C d_L_groups_139 1 rfl ?_
            refine pb_if_eq C d_L_groups_141 (tgt := 158) rfl (fun c_141 => ?_) (fun c_141 => ?_)
            · skip
              cases c_141
            · skip
              have hsm : sm = mSize g rs := by rw [hs, show k = ndM g rs at_ L 360 by omega]; exact gW_sum A0.1 hr h20 ha
              refine p_iload C d_L_groups_144 3 rfl ?_
              refine p_aload_n C d_L_groups_146 5 rfl ?_
              refine p_iload_n C d_L_groups_147 6 rfl ?_
              refine p_callC (As := [.int (nI rs)]) (B' := 3 * (360 - k)) C d_L_groups_148 ok_RL_82 (fun l h T X Y m A k => q_size m A k ) rfl rfl (rest := [.int (nI sm)]) rfl (Nat.le_of_ble_eq_true rfl) ⟨by decide, Nat.le_of_ble_eq_true rfl⟩ ⟨(show 3 * (360 - k) + 0 ≤ 3 * (360 - k) by omega), Nat.le_of_ble_eq_true rfl⟩ (fun v9 g3 e3 => ?_)
              obtain ⟨rfl, e3⟩ := e3
              show VP G x ad g3 f { frames := 8, cells := 1083, slots := 8664, locals := 138 } (3 * (360 - k)) 151 [(8, .int (nI k)), (7, .int (bI true)), (6, .int (nI la)), (5, .int (nI sm)), (4, .int (nI (ndM g rs at_ L 360))), (0, .ref (ad 0 0)), (1, .int (nI rs)), (2, .int (nI at_)), (3, .int (bI L))] [.int (rSz gq ((nI rs))), .int (nI sm)]
              refine p_st (st' := [.int (nI (mSize g rs)), .int (nI sm)]) (by rw [a_sizeE hE hr h20]) ?_
              refine pn_icmp_ne C d_L_groups_151 (tgt := 158) rfl (by omega) (by omega) (fun c_151 => ?_) (fun c_151 => ?_)
              · skip
                exfalso; omega
              · skip
                refine p_iconst C d_L_groups_154 (v := (bI true)) rfl ?_
                refine p_goto C d_L_groups_155 (tgt := 159) rfl ?_
                exact p_iret C A TY d_L_groups_159 rfl (⟨rfl, rfl, hE.tr e3⟩)
          · skip
            refine p_iload C d_L_groups_48 1 rfl ?_
            refine pb_if_eq C d_L_groups_50 (tgt := 139) rfl (fun c_50 => ?_) (fun c_50 => ?_)
            · skip
              cases c_50
            · skip
              refine p_B (B' := 3 * (360 - (k + 1)) + 3) (by omega) ?_
              obtain ⟨w1, w2⟩ := gW_f A0.1 hr h20 ha (L := L) (k := k) (by omega)
              have ho := ho (by omega)
              refine p_aload_n C d_L_groups_53 5 rfl ?_
              refine p_iload_n C d_L_groups_54 6 rfl ?_
              refine p_iload_n C d_L_groups_55 7 rfl ?_
              refine p_iload_n C d_L_groups_56 8 rfl ?_
              refine p_iload C d_L_groups_57 0 rfl ?_
              refine p_callX (As := [.int (nI rs), .int (nI at_), .int (bI L), .int (nI k)]) (B' := 3 * (360 - (k + 1))) C LX d_L_groups_59 ok_RL_137 (fun l h T X Y hl m A k => q_groupAt hl m A k (by rw [(x_rGA hE _ _ _ _).1]; exact a_cGA hr h20 ha (by omega))) (fun _ x => x) rfl rfl (rest := []) rfl (Nat.le_of_ble_eq_true rfl) ⟨by decide, Nat.le_of_ble_eq_true rfl⟩ ⟨(show 3 * (360 - (k + 1)) + 3 ≤ 3 * (360 - (k + 1)) + 3 by omega), Nat.le_of_ble_eq_true rfl⟩ (fun v9 g4 e4 => ?_)
              obtain ⟨rfl, eG⟩ := e4
              show VP G x ad g4 f { frames := 8, cells := 1083, slots := 8664, locals := 138 } (3 * (360 - (k + 1))) 62 [(8, .int (nI k)), (7, .int (bI true)), (6, .int (nI la)), (5, .int (nI sm)), (4, .int (nI (ndM g rs at_ L 360))), (0, .ref (ad 0 0)), (1, .int (nI rs)), (2, .int (nI at_)), (3, .int (bI L))] [.int (nI (rGA gq (nI rs) (nI at_) L (nI k)))]
              refine p_st (st' := [.int (nI (gW g rs at_ L k))]) (by rw [(x_rGA hE _ _ _ _).2, a_gA hr h20 ha (by omega)]; rfl) ?_
              refine p_istore C d_L_groups_62 (lv' := [(9, .int (nI (gW g rs at_ L k))), (8, .int (nI k)), (7, .int (bI true)), (6, .int (nI la)), (5, .int (nI sm)), (4, .int (nI (ndM g rs at_ L 360))), (0, .ref (ad 0 0)), (1, .int (nI rs)), (2, .int (nI at_)), (3, .int (bI L))]) (by decide) rfl ?_
              refine p_iload C d_L_groups_64 0 rfl ?_
              refine p_sipush C d_L_groups_66 (v := (nI 1000)) rfl ?_
              refine pn_idiv C d_L_groups_69 (by omega) (by omega) (by omega) ?_
              refine p_iconst C d_L_groups_70 (v := (nI 1)) rfl ?_
              refine pn_icmp_lt C d_L_groups_71 (tgt := 115) rfl (by omega) (by omega) (fun c_71 => ?_) (fun c_71 => ?_)
              · skip
                exfalso; omega
              · skip
                have join_111 : VP G x ad g4 f { frames := 8, cells := 1083, slots := 8664, locals := 138 } (3 * (360 - (k + 1))) 111 [(9, .int (nI (gW g rs at_ L k))), (8, .int (nI k)), (7, .int (bI true)), (6, .int (nI la)), (5, .int (nI sm)), (4, .int (nI (ndM g rs at_ L 360))), (0, .ref (ad 0 0)), (1, .int (nI rs)), (2, .int (nI at_)), (3, .int (bI L))] [] := by
                  refine p_iconst C d_L_groups_111 (v := (bI true)) rfl ?_
                  refine p_goto C d_L_groups_112 (tgt := 116) rfl ?_
                  refine p_istore C d_L_groups_116 (lv' := [(7, .int (bI true)), (9, .int (nI (gW g rs at_ L k))), (8, .int (nI k)), (6, .int (nI la)), (5, .int (nI sm)), (4, .int (nI (ndM g rs at_ L 360))), (0, .ref (ad 0 0)), (1, .int (nI rs)), (2, .int (nI at_)), (3, .int (bI L))]) (by decide) rfl ?_
                  refine p_iload C d_L_groups_118 4 rfl ?_
                  refine p_iload C d_L_groups_120 1 rfl ?_
                  refine p_sipush C d_L_groups_122 (v := (nI 1000)) rfl ?_
                  refine pn_idiv C d_L_groups_125 (by omega) (by omega) (by omega) ?_
                  refine pn_iadd C d_L_groups_126 ?_
                  refine p_istore C d_L_groups_127 (lv' := [(5, .int (nI (sm + ((gW g rs at_ L k) / 1000)))), (7, .int (bI true)), (9, .int (nI (gW g rs at_ L k))), (8, .int (nI k)), (6, .int (nI la)), (4, .int (nI (ndM g rs at_ L 360))), (0, .ref (ad 0 0)), (1, .int (nI rs)), (2, .int (nI at_)), (3, .int (bI L))]) (by decide) rfl ?_
                  refine p_iload C d_L_groups_129 2 rfl ?_
                  refine p_istore C d_L_groups_131 (lv' := [(6, .int (nI (gW g rs at_ L k))), (5, .int (nI (sm + ((gW g rs at_ L k) / 1000)))), (7, .int (bI true)), (9, .int (nI (gW g rs at_ L k))), (8, .int (nI k)), (4, .int (nI (ndM g rs at_ L 360))), (0, .ref (ad 0 0)), (1, .int (nI rs)), (2, .int (nI at_)), (3, .int (bI L))]) (by decide) rfl ?_
                  refine pn_iinc C d_L_groups_133 (lv' := [(8, .int (nI (k + 1))), (6, .int (nI (gW g rs at_ L k))), (5, .int (nI (sm + ((gW g rs at_ L k) / 1000)))), (7, .int (bI true)), (9, .int (nI (gW g rs at_ L k))), (4, .int (nI (ndM g rs at_ L 360))), (0, .ref (ad 0 0)), (1, .int (nI rs)), (2, .int (nI at_)), (3, .int (bI L))]) 4 rfl (nI_inc _ rfl) (by decide) rfl ?_
                  refine p_goto C d_L_groups_136 (tgt := 41) rfl ?_
                  refine p_lv (lv' := [(8, .int (nI (k + 1))), (7, .int (bI true)), (6, .int (nI (gW g rs at_ L k))), (5, .int (nI (sm + ((gW g rs at_ L k) / 1000)))), (4, .int (nI (ndM g rs at_ L 360))), (0, .ref (ad 0 0)), (1, .int (nI rs)), (2, .int (nI at_)), (3, .int (bI L))]) [0, 3, 1, 2, 5, 6, 7, 8, 9] rfl ?_
                  exact ih_41 (sm + ((gW g rs at_ L k) / 1000)) (gW g rs at_ L k) (k + 1) g4 (by omega) (by rw [sumTo_s, hs]) (hE.tr eG) (by omega) (w2) (by omega)
                refine p_iload C d_L_groups_74 0 rfl ?_
                refine p_sipush C d_L_groups_76 (v := (nI 1000)) rfl ?_
                refine pn_idiv C d_L_groups_79 (by omega) (by omega) (by omega) ?_
                refine p_iload C d_L_groups_80 3 rfl ?_
                refine p_sipush C d_L_groups_82 (v := (nI 1000)) rfl ?_
                refine pn_idiv C d_L_groups_85 (by omega) (by omega) (by omega) ?_
                refine pn_icmp_lt C d_L_groups_86 (tgt := 111) rfl (by omega) (by omega) (fun c_86 => ?_) (fun c_86 => ?_)
                · skip
                  exact join_111  
                · skip
                  refine p_iload C d_L_groups_89 0 rfl ?_
                  refine p_sipush C d_L_groups_91 (v := (nI 1000)) rfl ?_
                  refine pn_idiv C d_L_groups_94 (by omega) (by omega) (by omega) ?_
                  refine p_iload C d_L_groups_95 3 rfl ?_
                  refine p_sipush C d_L_groups_97 (v := (nI 1000)) rfl ?_
                  refine pn_idiv C d_L_groups_100 (by omega) (by omega) (by omega) ?_
                  refine pn_icmp_ne C d_L_groups_101 (tgt := 115) rfl (by omega) (by omega) (fun c_101 => ?_) (fun c_101 => ?_)
                  · skip
                    exfalso; omega
                  · skip
                    refine p_iload C d_L_groups_104 0 rfl ?_
                    refine p_iload C d_L_groups_106 3 rfl ?_
                    refine pn_icmp_le C d_L_groups_108 (tgt := 115) rfl (by omega) (by omega) (fun c_108 => ?_) (fun c_108 => ?_)
                    · skip
                      exfalso; omega
                    · skip
                      exact join_111  
      refine p_B (B' := 3 * (360 - 0)) (by omega) ?_
      exact loop_41 _ 0 1000000 0 g2 (by omega) (rfl) (e1.tr e2) (by omega) (fun z => by have := (gW_f A0.1 (L := L) hr h20 ha z).1; omega) (Nat.lt_succ_self _)
