theorem tw_683 : (Jvm.Cond.fieldLink "CorpuslineModel" (69 : Nat) "CorpuslineModel" "counts" "[I") ∈ TB := tb_of 683 (by decide +kernel) rfl
theorem tw_922 : (Jvm.Cond.methodLink "CorpuslineModel" (159 : Nat) ({ cls := "CorpuslineModel", name := "countsValues", desc := "(IIZ)I" } : Jvm.MethodName)) ∈ TB := tb_of 922 (by decide +kernel) rfl
theorem tw_924 : (Jvm.Cond.instanceMethod ({ cls := "CorpuslineModel", name := "countsValues", desc := "(IIZ)I" } : Jvm.MethodName)) ∈ TB := tb_of 924 (by decide +kernel) rfl
theorem tw_925 : (Jvm.Cond.code ({ cls := "CorpuslineModel", name := "countsValues", desc := "(IIZ)I" } : Jvm.MethodName) prog_9_method_50_code (7 : Nat) (Option.some Jvm.ClassFile.FieldType.int)) ∈ TB := tb_of 925 (by decide +kernel) rfl
theorem ts_35 : Cond.selects "CorpuslineModel" ({ cls := "CorpuslineModel", name := "countsValues", desc := "(IIZ)I" } : MethodName) ({ cls := "CorpuslineModel", name := "countsValues", desc := "(IIZ)I" } : MethodName) ∈ TB := tb_sel 35 (by decide +kernel) rfl
theorem fd_RX7_69 : fdOk RX7 69 6 22 := ⟨_, _, _, rfl, by decide, cw_6, tw_683, rfl⟩
theorem ok_RX7_159 : okV RX7 159 yX7_countsValues cX7_countsValues 7 (Option.some Jvm.ClassFile.FieldType.int) 3 := ⟨tw_922, tw_924, ts_35, tw_5, tw_925, ⟨by decide, by decide, by decide +kernel⟩⟩
theorem hasB_c {S T : mS} (h : ∀ i, mN S 21 i = mN T 21 i) (r k : Nat) : hasB S r k = hasB T r k := by unfold hasB; rw [h]
theorem vlM_c {S T : mS} (h : (∀ i, mN S 21 i = mN T 21 i) ∧ (∀ i, mN S 2 i = mN T 2 i) ∧ ∀ i, mI S 20 i = mI T 20 i) (r a : Nat) (L : Bool) (k : Nat) : vlM S r a L k = vlM T r a L k := by
  unfold vlM mVal sdR
  rw [h.2.2, h.2.1]
theorem cvM_c {S T : mS} (h : (∀ i, mN S 21 i = mN T 21 i) ∧ (∀ i, mN S 2 i = mN T 2 i) ∧ ∀ i, mI S 20 i = mI T 20 i) (r a : Nat) (L : Bool) (k z : Nat) : cvM S r a L k z = cvM T r a L k z := by
  unfold cvM
  congr 1
  funext j
  rw [hasB_c h.1, vlM_c h]
theorem ndM_c {S T : mS} (h : (∀ i, mN S 21 i = mN T 21 i) ∧ (∀ i, mN S 2 i = mN T 2 i) ∧ ∀ i, mI S 20 i = mI T 20 i) (r a : Nat) (L : Bool) : ∀ k, ndM S r a L k = ndM T r a L k
  | 0 => rfl
  | k + 1 => by rw [ndM, ndM, ndM_c h r a L k, hasB_c h.1, vlM_c h, cvM_c h]
theorem cGA_0 {S : mS} {r a : Int32} {L : Bool} {g : Int32} (h : cGA S r a L g = 0) : r = nI (tn r) ∧ tn r < 8 ∧ mI S 20 (tn r) ≠ -1 ∧ a = nI (tn a) ∧ tn a < 3 ∧ g = nI (tn g) ∧ tn g < 360 := by
  unfold cGA at h
  split at h
  · rename_i c
    split at h
    · rename_i d
      split at h
      · rename_i e
        obtain ⟨e1, e2, e3⟩ := mIsR_of c
        obtain ⟨e4, -, e5⟩ := inR_of d (by decide) (by decide)
        have h1 := ndM_le S (tn r) (tn a) L 360
        obtain ⟨e6, e7⟩ := inI_of (by omega) e
        exact ⟨e1, e2, e3, e4, by omega, e6, by omega⟩
      · omega
    · omega
  · omega

def dl_X7_countsValues : List (Nat × Instr × Nat) := [(0, .iconst 0, 1), (1, .istore 4, 2), (3, .iconst 0, 1), (4, .istore 5, 2), (6, .iload 5, 2), (8, .bipush 100, 2), (10, .if_icmp .ge 17, 3), (13, .aload_n 0, 1), (14, .getfield 69, 3), (17, .iload 5, 2), (19, .iconst 0, 1), (20, .iastore, 1), (21, .iinc 5 1, 3), (24, .goto (-18), 3), (27, .iconst 0, 1), (28, .istore 5, 2), (30, .iload 5, 2), (32, .sipush 360, 3), (35, .if_icmp .ge 101, 3), (38, .aload_n 0, 1), (39, .getfield 66, 3), (42, .bipush 40, 2), (44, .iload_n 1, 1), (45, .imul, 1), (46, .iload 5, 2), (48, .bipush 9, 2), (50, .idiv, 1), (51, .iadd, 1), (52, .iaload, 1), (53, .iload 5, 2), (55, .bipush 9, 2), (57, .irem, 1), (58, .ishr, 1), (59, .iconst 1, 1), (60, .iand, 1), (61, .iconst 1, 1), (62, .if_icmp .ne 68, 3), (65, .aload_n 0, 1), (66, .aload_n 0, 1), (67, .getfield 63, 3), (70, .iload_n 1, 1), (71, .iaload, 1), (72, .iload 5, 2), (74, .bipush 9, 2), (76, .idiv, 1), (77, .iload_n 3, 1), (78, .ifCond .eq 13, 3), (81, .iload 5, 2), (83, .bipush 9, 2), (85, .irem, 1), (86, .iconst 1, 1), (87, .isub, 1), (88, .goto 4, 3), (91, .iconst 0, 1), (92, .iadd, 1), (93, .iload_n 2, 1), (94, .invokevirtual 94, 3), (97, .istore 6, 2), (99, .iload 4, 2), (101, .aload_n 0, 1), (102, .getfield 69, 3), (105, .iload 6, 2), (107, .iaload, 1), (108, .ifCond .ne 7, 3), (111, .iconst 1, 1), (112, .goto 4, 3), (115, .iconst 0, 1), (116, .iadd, 1), (117, .istore 4, 2), (119, .aload_n 0, 1), (120, .getfield 69, 3), (123, .iload 6, 2), (125, .dup2, 1), (126, .iaload, 1), (127, .iconst 1, 1), (128, .iadd, 1), (129, .iastore, 1), (130, .iinc 5 1, 3), (133, .goto (-103), 3), (136, .iload 4, 2), (138, .ireturn, 1)]
theorem dc_X7_countsValues : dnL cX7_countsValues dl_X7_countsValues = true := by decide +kernel
theorem d_X7_countsValues_0 : dn cX7_countsValues 0 (.iconst 0) 1 1 := dnAt dc_X7_countsValues 0 rfl rfl
theorem d_X7_countsValues_1 : dn cX7_countsValues 1 (.istore 4) 2 3 := dnAt dc_X7_countsValues 1 rfl rfl
theorem d_X7_countsValues_3 : dn cX7_countsValues 3 (.iconst 0) 1 4 := dnAt dc_X7_countsValues 2 rfl rfl
theorem d_X7_countsValues_4 : dn cX7_countsValues 4 (.istore 5) 2 6 := dnAt dc_X7_countsValues 3 rfl rfl
theorem d_X7_countsValues_6 : dn cX7_countsValues 6 (.iload 5) 2 8 := dnAt dc_X7_countsValues 4 rfl rfl
theorem d_X7_countsValues_8 : dn cX7_countsValues 8 (.bipush 100) 2 10 := dnAt dc_X7_countsValues 5 rfl rfl
theorem d_X7_countsValues_10 : dn cX7_countsValues 10 (.if_icmp .ge 17) 3 13 := dnAt dc_X7_countsValues 6 rfl rfl
theorem d_X7_countsValues_13 : dn cX7_countsValues 13 (.aload_n 0) 1 14 := dnAt dc_X7_countsValues 7 rfl rfl
theorem d_X7_countsValues_14 : dn cX7_countsValues 14 (.getfield 69) 3 17 := dnAt dc_X7_countsValues 8 rfl rfl
theorem d_X7_countsValues_17 : dn cX7_countsValues 17 (.iload 5) 2 19 := dnAt dc_X7_countsValues 9 rfl rfl
theorem d_X7_countsValues_19 : dn cX7_countsValues 19 (.iconst 0) 1 20 := dnAt dc_X7_countsValues 10 rfl rfl
theorem d_X7_countsValues_20 : dn cX7_countsValues 20 (.iastore) 1 21 := dnAt dc_X7_countsValues 11 rfl rfl
theorem d_X7_countsValues_21 : dn cX7_countsValues 21 (.iinc 5 1) 3 24 := dnAt dc_X7_countsValues 12 rfl rfl
theorem d_X7_countsValues_24 : dn cX7_countsValues 24 (.goto (-18)) 3 27 := dnAt dc_X7_countsValues 13 rfl rfl
theorem d_X7_countsValues_27 : dn cX7_countsValues 27 (.iconst 0) 1 28 := dnAt dc_X7_countsValues 14 rfl rfl
theorem d_X7_countsValues_28 : dn cX7_countsValues 28 (.istore 5) 2 30 := dnAt dc_X7_countsValues 15 rfl rfl
theorem d_X7_countsValues_30 : dn cX7_countsValues 30 (.iload 5) 2 32 := dnAt dc_X7_countsValues 16 rfl rfl
theorem d_X7_countsValues_32 : dn cX7_countsValues 32 (.sipush 360) 3 35 := dnAt dc_X7_countsValues 17 rfl rfl
theorem d_X7_countsValues_35 : dn cX7_countsValues 35 (.if_icmp .ge 101) 3 38 := dnAt dc_X7_countsValues 18 rfl rfl
theorem d_X7_countsValues_38 : dn cX7_countsValues 38 (.aload_n 0) 1 39 := dnAt dc_X7_countsValues 19 rfl rfl
theorem d_X7_countsValues_39 : dn cX7_countsValues 39 (.getfield 66) 3 42 := dnAt dc_X7_countsValues 20 rfl rfl
theorem d_X7_countsValues_42 : dn cX7_countsValues 42 (.bipush 40) 2 44 := dnAt dc_X7_countsValues 21 rfl rfl
theorem d_X7_countsValues_44 : dn cX7_countsValues 44 (.iload_n 1) 1 45 := dnAt dc_X7_countsValues 22 rfl rfl
theorem d_X7_countsValues_45 : dn cX7_countsValues 45 (.imul) 1 46 := dnAt dc_X7_countsValues 23 rfl rfl
theorem d_X7_countsValues_46 : dn cX7_countsValues 46 (.iload 5) 2 48 := dnAt dc_X7_countsValues 24 rfl rfl
theorem d_X7_countsValues_48 : dn cX7_countsValues 48 (.bipush 9) 2 50 := dnAt dc_X7_countsValues 25 rfl rfl
theorem d_X7_countsValues_50 : dn cX7_countsValues 50 (.idiv) 1 51 := dnAt dc_X7_countsValues 26 rfl rfl
theorem d_X7_countsValues_51 : dn cX7_countsValues 51 (.iadd) 1 52 := dnAt dc_X7_countsValues 27 rfl rfl
theorem d_X7_countsValues_52 : dn cX7_countsValues 52 (.iaload) 1 53 := dnAt dc_X7_countsValues 28 rfl rfl
theorem d_X7_countsValues_53 : dn cX7_countsValues 53 (.iload 5) 2 55 := dnAt dc_X7_countsValues 29 rfl rfl
theorem d_X7_countsValues_55 : dn cX7_countsValues 55 (.bipush 9) 2 57 := dnAt dc_X7_countsValues 30 rfl rfl
theorem d_X7_countsValues_57 : dn cX7_countsValues 57 (.irem) 1 58 := dnAt dc_X7_countsValues 31 rfl rfl
theorem d_X7_countsValues_58 : dn cX7_countsValues 58 (.ishr) 1 59 := dnAt dc_X7_countsValues 32 rfl rfl
theorem d_X7_countsValues_59 : dn cX7_countsValues 59 (.iconst 1) 1 60 := dnAt dc_X7_countsValues 33 rfl rfl
theorem d_X7_countsValues_60 : dn cX7_countsValues 60 (.iand) 1 61 := dnAt dc_X7_countsValues 34 rfl rfl
theorem d_X7_countsValues_61 : dn cX7_countsValues 61 (.iconst 1) 1 62 := dnAt dc_X7_countsValues 35 rfl rfl
theorem d_X7_countsValues_62 : dn cX7_countsValues 62 (.if_icmp .ne 68) 3 65 := dnAt dc_X7_countsValues 36 rfl rfl
theorem d_X7_countsValues_65 : dn cX7_countsValues 65 (.aload_n 0) 1 66 := dnAt dc_X7_countsValues 37 rfl rfl
theorem d_X7_countsValues_66 : dn cX7_countsValues 66 (.aload_n 0) 1 67 := dnAt dc_X7_countsValues 38 rfl rfl
theorem d_X7_countsValues_67 : dn cX7_countsValues 67 (.getfield 63) 3 70 := dnAt dc_X7_countsValues 39 rfl rfl
theorem d_X7_countsValues_70 : dn cX7_countsValues 70 (.iload_n 1) 1 71 := dnAt dc_X7_countsValues 40 rfl rfl
theorem d_X7_countsValues_71 : dn cX7_countsValues 71 (.iaload) 1 72 := dnAt dc_X7_countsValues 41 rfl rfl
theorem d_X7_countsValues_72 : dn cX7_countsValues 72 (.iload 5) 2 74 := dnAt dc_X7_countsValues 42 rfl rfl
theorem d_X7_countsValues_74 : dn cX7_countsValues 74 (.bipush 9) 2 76 := dnAt dc_X7_countsValues 43 rfl rfl
theorem d_X7_countsValues_76 : dn cX7_countsValues 76 (.idiv) 1 77 := dnAt dc_X7_countsValues 44 rfl rfl
theorem d_X7_countsValues_77 : dn cX7_countsValues 77 (.iload_n 3) 1 78 := dnAt dc_X7_countsValues 45 rfl rfl
theorem d_X7_countsValues_78 : dn cX7_countsValues 78 (.ifCond .eq 13) 3 81 := dnAt dc_X7_countsValues 46 rfl rfl
theorem d_X7_countsValues_81 : dn cX7_countsValues 81 (.iload 5) 2 83 := dnAt dc_X7_countsValues 47 rfl rfl
theorem d_X7_countsValues_83 : dn cX7_countsValues 83 (.bipush 9) 2 85 := dnAt dc_X7_countsValues 48 rfl rfl
theorem d_X7_countsValues_85 : dn cX7_countsValues 85 (.irem) 1 86 := dnAt dc_X7_countsValues 49 rfl rfl
theorem d_X7_countsValues_86 : dn cX7_countsValues 86 (.iconst 1) 1 87 := dnAt dc_X7_countsValues 50 rfl rfl
theorem d_X7_countsValues_87 : dn cX7_countsValues 87 (.isub) 1 88 := dnAt dc_X7_countsValues 51 rfl rfl
theorem d_X7_countsValues_88 : dn cX7_countsValues 88 (.goto 4) 3 91 := dnAt dc_X7_countsValues 52 rfl rfl
theorem d_X7_countsValues_91 : dn cX7_countsValues 91 (.iconst 0) 1 92 := dnAt dc_X7_countsValues 53 rfl rfl
theorem d_X7_countsValues_92 : dn cX7_countsValues 92 (.iadd) 1 93 := dnAt dc_X7_countsValues 54 rfl rfl
theorem d_X7_countsValues_93 : dn cX7_countsValues 93 (.iload_n 2) 1 94 := dnAt dc_X7_countsValues 55 rfl rfl
theorem d_X7_countsValues_94 : dn cX7_countsValues 94 (.invokevirtual 94) 3 97 := dnAt dc_X7_countsValues 56 rfl rfl
theorem d_X7_countsValues_97 : dn cX7_countsValues 97 (.istore 6) 2 99 := dnAt dc_X7_countsValues 57 rfl rfl
theorem d_X7_countsValues_99 : dn cX7_countsValues 99 (.iload 4) 2 101 := dnAt dc_X7_countsValues 58 rfl rfl
theorem d_X7_countsValues_101 : dn cX7_countsValues 101 (.aload_n 0) 1 102 := dnAt dc_X7_countsValues 59 rfl rfl
theorem d_X7_countsValues_102 : dn cX7_countsValues 102 (.getfield 69) 3 105 := dnAt dc_X7_countsValues 60 rfl rfl
theorem d_X7_countsValues_105 : dn cX7_countsValues 105 (.iload 6) 2 107 := dnAt dc_X7_countsValues 61 rfl rfl
theorem d_X7_countsValues_107 : dn cX7_countsValues 107 (.iaload) 1 108 := dnAt dc_X7_countsValues 62 rfl rfl
theorem d_X7_countsValues_108 : dn cX7_countsValues 108 (.ifCond .ne 7) 3 111 := dnAt dc_X7_countsValues 63 rfl rfl
theorem d_X7_countsValues_111 : dn cX7_countsValues 111 (.iconst 1) 1 112 := dnAt dc_X7_countsValues 64 rfl rfl
theorem d_X7_countsValues_112 : dn cX7_countsValues 112 (.goto 4) 3 115 := dnAt dc_X7_countsValues 65 rfl rfl
theorem d_X7_countsValues_115 : dn cX7_countsValues 115 (.iconst 0) 1 116 := dnAt dc_X7_countsValues 66 rfl rfl
theorem d_X7_countsValues_116 : dn cX7_countsValues 116 (.iadd) 1 117 := dnAt dc_X7_countsValues 67 rfl rfl
theorem d_X7_countsValues_117 : dn cX7_countsValues 117 (.istore 4) 2 119 := dnAt dc_X7_countsValues 68 rfl rfl
theorem d_X7_countsValues_119 : dn cX7_countsValues 119 (.aload_n 0) 1 120 := dnAt dc_X7_countsValues 69 rfl rfl
theorem d_X7_countsValues_120 : dn cX7_countsValues 120 (.getfield 69) 3 123 := dnAt dc_X7_countsValues 70 rfl rfl
theorem d_X7_countsValues_123 : dn cX7_countsValues 123 (.iload 6) 2 125 := dnAt dc_X7_countsValues 71 rfl rfl
theorem d_X7_countsValues_125 : dn cX7_countsValues 125 (.dup2) 1 126 := dnAt dc_X7_countsValues 72 rfl rfl
theorem d_X7_countsValues_126 : dn cX7_countsValues 126 (.iaload) 1 127 := dnAt dc_X7_countsValues 73 rfl rfl
theorem d_X7_countsValues_127 : dn cX7_countsValues 127 (.iconst 1) 1 128 := dnAt dc_X7_countsValues 74 rfl rfl
theorem d_X7_countsValues_128 : dn cX7_countsValues 128 (.iadd) 1 129 := dnAt dc_X7_countsValues 75 rfl rfl
theorem d_X7_countsValues_129 : dn cX7_countsValues 129 (.iastore) 1 130 := dnAt dc_X7_countsValues 76 rfl rfl
theorem d_X7_countsValues_130 : dn cX7_countsValues 130 (.iinc 5 1) 3 133 := dnAt dc_X7_countsValues 77 rfl rfl
theorem d_X7_countsValues_133 : dn cX7_countsValues 133 (.goto (-103)) 3 136 := dnAt dc_X7_countsValues 78 rfl rfl
theorem d_X7_countsValues_136 : dn cX7_countsValues 136 (.iload 4) 2 138 := dnAt dc_X7_countsValues 79 rfl rfl
theorem d_X7_countsValues_138 : dn cX7_countsValues 138 (.ireturn) 1 139 := dnAt dc_X7_countsValues 80 rfl rfl
set_option maxHeartbeats 4000000 in
set_option maxRecDepth 100000 in
theorem m_countsValues (S : mS) (r a : Nat) (L : Bool) (I : mInv S) (hr : r < 8) (h1 : mI S 20 r ≠ -1) (ha : a < 3) : mC yX7_countsValues cX7_countsValues 7 (Option.some Jvm.ClassFile.FieldType.int) { frames := 1, cells := 0, slots := 0, locals := 23 } [.int (nI r), .int (nI a), .int (bI L)] S (fun v9 T9 => v9 = (some (.int (nI (ndM S r a L 360)))) ∧ T9 = sN S 22 (cvR S r a L 360)) := by
  refine mC.of (by decide) (Nat.le_of_ble_eq_true rfl) ?_
  intro G x q h0 C A TY
  show VM G x q h0 S 0 [(0, .ref (q 0)), (1, .int (nI r)), (2, .int (nI a)), (3, .int (bI L))] []
  have hsd := sdR_lt S r
  have hse := sdR_of I hr h1
  refine m_iconst C d_X7_countsValues_0 (v := (nI 0)) rfl ?_
  refine m_istore C d_X7_countsValues_1 (lv' := [(4, .int (nI 0)), (0, .ref (q 0)), (1, .int (nI r)), (2, .int (nI a)), (3, .int (bI L))]) (by decide) rfl ?_
  refine m_iconst C d_X7_countsValues_3 (v := (nI 0)) rfl ?_
  refine m_istore C d_X7_countsValues_4 (lv' := [(5, .int (nI 0)), (4, .int (nI 0)), (0, .ref (q 0)), (1, .int (nI r)), (2, .int (nI a)), (3, .int (bI L))]) (by decide) rfl ?_
  have loop_6 : ∀ (fuel : Nat) (k : Nat), (k ≤ 100) → (101 - k) < fuel → VM G x q h0 (sN S 22 (fun z => if z < k then 0 else mN S 22 z)) 6 [(0, .ref (q 0)), (1, .int (nI r)), (2, .int (nI a)), (3, .int (bI L)), (4, .int (nI 0)), (5, .int (nI k))] [] := by
    intro fuel
    induction fuel with
    | zero => intro k hk hf9; exact absurd hf9 (Nat.not_lt_zero _)
    | succ fuel ih_6 =>
      intro k hk hf9
      refine m_iload C d_X7_countsValues_6 5 rfl ?_
      refine m_bipush C d_X7_countsValues_8 (v := (nI 100)) rfl ?_
      refine mn_icmp_ge C d_X7_countsValues_10 (tgt := 27) rfl (by omega) (by omega) (fun c_10 => ?_) (fun c_10 => ?_)
      · skip
        obtain rfl : k = 100 := by omega
        refine m_iconst C d_X7_countsValues_27 (v := (nI 0)) rfl ?_
        refine m_istore C d_X7_countsValues_28 (lv' := [(5, .int (nI 0)), (0, .ref (q 0)), (1, .int (nI r)), (2, .int (nI a)), (3, .int (bI L)), (4, .int (nI 0))]) (by decide) rfl ?_
        have loop_30 : ∀ (fuel : Nat) (k : Nat), (k ≤ 360) → (361 - k) < fuel → VM G x q h0 (sN S 22 (cvR S r a L k)) 30 [(0, .ref (q 0)), (1, .int (nI r)), (2, .int (nI a)), (3, .int (bI L)), (4, .int (nI (ndM S r a L k))), (5, .int (nI k))] [] := by
          intro fuel
          induction fuel with
          | zero => intro k hk2 hf9; exact absurd hf9 (Nat.not_lt_zero _)
          | succ fuel ih_30 =>
            intro k hk2 hf9
            refine m_iload C d_X7_countsValues_30 5 rfl ?_
            refine m_sipush C d_X7_countsValues_32 (v := (nI 360)) rfl ?_
            refine mn_icmp_ge C d_X7_countsValues_35 (tgt := 136) rfl (by omega) (by omega) (fun c_35 => ?_) (fun c_35 => ?_)
            · skip
              obtain rfl : k = 360 := by omega
              refine m_iload C d_X7_countsValues_136 4 rfl ?_
              exact m_iret C A TY d_X7_countsValues_138 rfl (⟨rfl, rfl⟩)
            · skip
              refine m_aload_n C d_X7_countsValues_38 0 rfl ?_
              refine m_get C d_X7_countsValues_39 fd_RX7_66 (v := .ref (q 21)) rfl ?_
              refine m_bipush C d_X7_countsValues_42 (v := (nI 40)) rfl ?_
              refine m_iload_n C d_X7_countsValues_44 1 rfl ?_
              refine mn_imul C d_X7_countsValues_45 ?_
              refine m_iload C d_X7_countsValues_46 5 rfl ?_
              refine m_bipush C d_X7_countsValues_48 (v := (nI 9)) rfl ?_
              refine mn_idiv C d_X7_countsValues_50 (by omega) (by omega) (by omega) ?_
              refine mn_iadd C d_X7_countsValues_51 ?_
              refine m_ald C d_X7_countsValues_52 (k := 21) (by decide) rfl (by show _ < 320; omega) (by decide) ?_
              refine m_st (st' := [.int (nI (mN S 21 ((40 * r) + (k / 9))))]) rfl ?_
              refine m_iload C d_X7_countsValues_53 5 rfl ?_
              refine m_bipush C d_X7_countsValues_55 (v := (nI 9)) rfl ?_
              refine mn_irem C d_X7_countsValues_57 (by omega) (by omega) (by omega) ?_
              refine mn_ishr C d_X7_countsValues_58 (by have := len_lt I (z := 40 * r + k / 9) (by omega); omega) (by omega) ?_
              refine m_iconst C d_X7_countsValues_59 (v := (nI 1)) rfl ?_
              refine mn_iand C d_X7_countsValues_60 ?_
              refine m_st (st' := [.int (nI (mN S 21 (40 * r + k / 9) / 2 ^ (k % 9) % 2))]) (by rw [and1]) ?_
              refine m_iconst C d_X7_countsValues_61 (v := (nI 1)) rfl ?_
              refine mn_icmp_ne C d_X7_countsValues_62 (tgt := 130) rfl (by omega) (by omega) (fun c_62 => ?_) (fun c_62 => ?_)
              · skip
                have hnb : ¬ hasB S r k = true := fun z => c_62 (of_decide_eq_true z)
                refine mn_iinc C d_X7_countsValues_130 (lv' := [(5, .int (nI (k + 1))), (0, .ref (q 0)), (1, .int (nI r)), (2, .int (nI a)), (3, .int (bI L)), (4, .int (nI (ndM S r a L k)))]) 5 rfl (nI_inc _ rfl) (by decide) rfl ?_
                refine m_goto C d_X7_countsValues_133 (tgt := 30) rfl ?_
                refine m_eq (S' := sN S 22 (cvR S r a L (k + 1))) (cv_skip hnb) ?_
                refine m_lv (lv' := [(0, .ref (q 0)), (1, .int (nI r)), (2, .int (nI a)), (3, .int (bI L)), (4, .int (nI (ndM S r a L k))), (5, .int (nI (k + 1)))]) [1, 2, 3, 4, 5, 0] rfl ?_
                refine m_lve (lv' := [(0, .ref (q 0)), (1, .int (nI r)), (2, .int (nI a)), (3, .int (bI L)), (4, .int (nI (ndM S r a L (k + 1)))), (5, .int (nI (k + 1)))]) (by rw [ndM, if_neg (fun z => hnb z.1)]; rfl) ?_
                exact ih_30 (k + 1) (by omega) (by omega)
              · skip
                have hbb : hasB S r k = true := decide_eq_true c_62
                obtain ⟨hp1, hp2⟩ := pl_lt I hr h1 (by omega) c_62 L
                have hv : vlM S r a L k < 100 := I.2.1 _ (by omega)
                refine m_aload_n C d_X7_countsValues_65 0 rfl ?_
                refine m_aload_n C d_X7_countsValues_66 0 rfl ?_
                refine m_get C d_X7_countsValues_67 fd_RX7_63 (v := .ref (q 20)) rfl ?_
                refine m_iload_n C d_X7_countsValues_70 1 rfl ?_
                refine m_aldI C d_X7_countsValues_71 (k := 20) (by decide) rfl (by show _ < 8; omega) (by decide) ?_
                refine m_st (st' := [.int (mI S 20 r), .ref (q 0)]) rfl ?_
                refine m_st (st' := [.int (nI (sdR S r)), .ref (q 0)]) (by rw [hse]) ?_
                have join_92 : VM G x q h0 (sN S 22 (cvR S r a L k)) 92 [(0, .ref (q 0)), (1, .int (nI r)), (2, .int (nI a)), (3, .int (bI L)), (4, .int (nI (ndM S r a L k))), (5, .int (nI k))] [.int (nI (if L = true then k % 9 - 1 else 0)), .int (nI (k / 9)), .int (nI (sdR S r)), .ref (q 0)] := by
                  refine mn_iadd C d_X7_countsValues_92 ?_
                  refine m_iload_n C d_X7_countsValues_93 2 rfl ?_
                  refine m_callV C d_X7_countsValues_94 ok_RX7_94 (m_valueOf (sN S 22 (cvR S r a L k)) (sdR S r) ((k / 9) + (if L = true then k % 9 - 1 else 0)) a (by omega) (hp1) (by omega)) rfl (rest := []) rfl rfl (Nat.le_of_ble_eq_true rfl) ⟨⟨by decide, by decide⟩, by decide, by decide⟩ (fun v9 T9 e9 => ?_)
                  obtain ⟨rfl, e9⟩ := e9
                  refine m_eq e9 ?_
                  show VM G x q h0 (sN S 22 (cvR S r a L k)) 97 [(0, .ref (q 0)), (1, .int (nI r)), (2, .int (nI a)), (3, .int (bI L)), (4, .int (nI (ndM S r a L k))), (5, .int (nI k))] [.int (nI (mVal S (sdR S r) ((k / 9) + (if L = true then k % 9 - 1 else 0)) a))]
                  refine m_st (st' := [.int (nI (vlM S r a L k))]) (rfl) ?_
                  refine m_istore C d_X7_countsValues_97 (lv' := [(6, .int (nI (vlM S r a L k))), (0, .ref (q 0)), (1, .int (nI r)), (2, .int (nI a)), (3, .int (bI L)), (4, .int (nI (ndM S r a L k))), (5, .int (nI k))]) (by decide) rfl ?_
                  have join_116 : VM G x q h0 (sN S 22 (cvR S r a L k)) 116 [(0, .ref (q 0)), (1, .int (nI r)), (2, .int (nI a)), (3, .int (bI L)), (5, .int (nI k)), (6, .int (nI (vlM S r a L k)))] [.int (nI (if cvM S r a L k (vlM S r a L k) = 0 then 1 else 0)), .int (nI (ndM S r a L k))] := by
                    refine mn_iadd C d_X7_countsValues_116 ?_
                    refine m_istore C d_X7_countsValues_117 (lv' := [(4, .int (nI ((ndM S r a L k) + (if cvM S r a L k (vlM S r a L k) = 0 then 1 else 0)))), (0, .ref (q 0)), (1, .int (nI r)), (2, .int (nI a)), (3, .int (bI L)), (5, .int (nI k)), (6, .int (nI (vlM S r a L k)))]) (by decide) rfl ?_
                    refine m_aload_n C d_X7_countsValues_119 1 rfl ?_
                    refine m_get C d_X7_countsValues_120 fd_RX7_69 (v := .ref (q 22)) rfl ?_
                    refine m_iload C d_X7_countsValues_123 6 rfl ?_
                    refine m_dup2 C d_X7_countsValues_125 rfl rfl ?_
                    refine m_ald C d_X7_countsValues_126 (k := 22) (by decide) rfl (by show _ < 100; omega) (by decide) ?_
                    refine m_st (st' := [.int (nI (cvM S r a L k (vlM S r a L k))), .int (nI (vlM S r a L k)), .ref (q 22)]) (by rw [mN_sN, if_pos rfl, cvR, if_pos hv]) ?_
                    refine m_iconst C d_X7_countsValues_127 (v := (nI 1)) rfl ?_
                    refine mn_iadd C d_X7_countsValues_128 ?_
                    refine m_ast C d_X7_countsValues_129 (k := 22) (v := (cvM S r a L k (vlM S r a L k)) + 1) (by decide) rfl (by show _ < 100; omega) (by decide) ?_
                    refine mn_iinc C d_X7_countsValues_130 (lv' := [(5, .int (nI (k + 1))), (4, .int (nI ((ndM S r a L k) + (if cvM S r a L k (vlM S r a L k) = 0 then 1 else 0)))), (0, .ref (q 0)), (1, .int (nI r)), (2, .int (nI a)), (3, .int (bI L)), (6, .int (nI (vlM S r a L k)))]) 5 rfl (nI_inc _ rfl) (by decide) rfl ?_
                    refine m_goto C d_X7_countsValues_133 (tgt := 30) rfl ?_
                    refine m_eq (S' := sN S 22 (cvR S r a L (k + 1))) (cv_step hbb hv) ?_
                    refine m_lv (lv' := [(0, .ref (q 0)), (1, .int (nI r)), (2, .int (nI a)), (3, .int (bI L)), (4, .int (nI ((ndM S r a L k) + (if cvM S r a L k (vlM S r a L k) = 0 then 1 else 0)))), (5, .int (nI (k + 1)))]) [2, 3, 4, 5, 1, 0] rfl ?_
                    refine m_lve (lv' := [(0, .ref (q 0)), (1, .int (nI r)), (2, .int (nI a)), (3, .int (bI L)), (4, .int (nI (ndM S r a L (k + 1)))), (5, .int (nI (k + 1)))]) (by rw [ndM]; simp only [hbb, true_and]) ?_
                    exact ih_30 (k + 1) (by omega) (by omega)
                  refine m_iload C d_X7_countsValues_99 5 rfl ?_
                  refine m_aload_n C d_X7_countsValues_101 1 rfl ?_
                  refine m_get C d_X7_countsValues_102 fd_RX7_69 (v := .ref (q 22)) rfl ?_
                  refine m_iload C d_X7_countsValues_105 0 rfl ?_
                  refine m_ald C d_X7_countsValues_107 (k := 22) (by decide) rfl (by show _ < 100; omega) (by decide) ?_
                  refine m_st (st' := [.int (nI (cvM S r a L k (vlM S r a L k))), .int (nI (ndM S r a L k))]) (by rw [mN_sN, if_pos rfl, cvR, if_pos hv]) ?_
                  refine mn_if_ne C d_X7_countsValues_108 (tgt := 115) rfl (by have := cvM_le S r a L k (vlM S r a L k); omega) (fun c_108 => ?_) (fun c_108 => ?_)
                  · skip
                    refine m_iconst C d_X7_countsValues_115 (v := (nI 0)) rfl ?_
                    refine m_lv (lv' := [(0, .ref (q 0)), (1, .int (nI r)), (2, .int (nI a)), (3, .int (bI L)), (5, .int (nI k)), (6, .int (nI (vlM S r a L k)))]) [1, 2, 3, 4, 6, 0] rfl ?_
                    refine m_st (st' := [.int (nI (if cvM S r a L k (vlM S r a L k) = 0 then 1 else 0)), .int (nI (ndM S r a L k))]) (by rw [if_neg (by omega)]) ?_
                    exact join_116  
                  · skip
                    refine m_iconst C d_X7_countsValues_111 (v := (nI 1)) rfl ?_
                    refine m_goto C d_X7_countsValues_112 (tgt := 116) rfl ?_
                    refine m_lv (lv' := [(0, .ref (q 0)), (1, .int (nI r)), (2, .int (nI a)), (3, .int (bI L)), (5, .int (nI k)), (6, .int (nI (vlM S r a L k)))]) [1, 2, 3, 4, 6, 0] rfl ?_
                    refine m_st (st' := [.int (nI (if cvM S r a L k (vlM S r a L k) = 0 then 1 else 0)), .int (nI (ndM S r a L k))]) (by rw [if_pos c_108]) ?_
                    exact join_116  
                refine m_iload C d_X7_countsValues_72 5 rfl ?_
                refine m_bipush C d_X7_countsValues_74 (v := (nI 9)) rfl ?_
                refine mn_idiv C d_X7_countsValues_76 (by omega) (by omega) (by omega) ?_
                refine m_iload_n C d_X7_countsValues_77 3 rfl ?_
                refine mb_if_eq C d_X7_countsValues_78 (tgt := 91) rfl (fun c_78 => ?_) (fun c_78 => ?_)
                · skip
                  refine m_iconst C d_X7_countsValues_91 (v := (nI 0)) rfl ?_
                  refine m_st (st' := [.int (nI (if L = true then k % 9 - 1 else 0)), .int (nI (k / 9)), .int (nI (sdR S r)), .ref (q 0)]) (by rw [if_neg (by rw [c_78]; decide)]) ?_
                  exact join_92  
                · skip
                  refine m_iload C d_X7_countsValues_81 5 rfl ?_
                  refine m_bipush C d_X7_countsValues_83 (v := (nI 9)) rfl ?_
                  refine mn_irem C d_X7_countsValues_85 (by omega) (by omega) (by omega) ?_
                  refine m_iconst C d_X7_countsValues_86 (v := (nI 1)) rfl ?_
                  refine mn_isub C d_X7_countsValues_87 (by omega) ?_
                  refine m_goto C d_X7_countsValues_88 (tgt := 92) rfl ?_
                  refine m_st (st' := [.int (nI (if L = true then k % 9 - 1 else 0)), .int (nI (k / 9)), .int (nI (sdR S r)), .ref (q 0)]) (by rw [if_pos c_78]) ?_
                  exact join_92  
        refine m_eq (S' := sN S 22 (cvR S r a L 0)) (by congr 1) ?_
        refine m_lv (lv' := [(0, .ref (q 0)), (1, .int (nI r)), (2, .int (nI a)), (3, .int (bI L)), (4, .int (nI 0)), (5, .int (nI 0))]) [1, 2, 3, 4, 5, 0] rfl ?_
        refine m_lve (lv' := [(0, .ref (q 0)), (1, .int (nI r)), (2, .int (nI a)), (3, .int (bI L)), (4, .int (nI (ndM S r a L 0))), (5, .int (nI 0))]) (rfl) ?_
        exact loop_30 _ 0 (by omega) (Nat.lt_succ_self _)
      · skip
        refine m_aload_n C d_X7_countsValues_13 0 rfl ?_
        refine m_get C d_X7_countsValues_14 fd_RX7_69 (v := .ref (q 22)) rfl ?_
        refine m_iload C d_X7_countsValues_17 5 rfl ?_
        refine m_iconst C d_X7_countsValues_19 (v := (nI 0)) rfl ?_
        refine m_ast C d_X7_countsValues_20 (k := 22) (v := 0) (by decide) rfl (by show _ < 100; omega) (by decide) ?_
        refine mn_iinc C d_X7_countsValues_21 (lv' := [(5, .int (nI (k + 1))), (0, .ref (q 0)), (1, .int (nI r)), (2, .int (nI a)), (3, .int (bI L)), (4, .int (nI 0))]) 5 rfl (nI_inc _ rfl) (by decide) rfl ?_
        refine m_goto C d_X7_countsValues_24 (tgt := 6) rfl ?_
        refine m_eq (S' := sN S 22 (fun z => if z < (k + 1) then 0 else mN S 22 z)) (sN_step (fun z => by by_cases c : z = k; rw [if_pos c, if_pos (by omega)]; rw [if_neg c]; by_cases d : z < k; rw [if_pos d, if_pos (by omega)]; rw [if_neg d, if_neg (by omega)])) ?_
        refine m_lv (lv' := [(0, .ref (q 0)), (1, .int (nI r)), (2, .int (nI a)), (3, .int (bI L)), (4, .int (nI 0)), (5, .int (nI (k + 1)))]) [1, 2, 3, 4, 5, 0] rfl ?_
        exact ih_6 (k + 1) (by omega) (by omega)
  refine m_eq (S' := sN S 22 (fun z => if z < 0 then 0 else mN S 22 z)) (sN_init (fun z => by rw [if_neg (Nat.not_lt_zero z)])) ?_
  refine m_lv (lv' := [(0, .ref (q 0)), (1, .int (nI r)), (2, .int (nI a)), (3, .int (bI L)), (4, .int (nI 0)), (5, .int (nI 0))]) [2, 3, 4, 5, 1, 0] rfl ?_
  exact loop_6 _ 0 (by omega) (Nat.lt_succ_self _)
def dl_X7_groups : List (Nat × Instr × Nat) := [(0, .aload_n 0, 1), (1, .aload_n 0, 1), (2, .iload_n 1, 1), (3, .invokevirtual 153, 3), (6, .ifCond .ne 7, 3), (9, .iconst 1, 1), (10, .goto 15, 3), (13, .iload_n 2, 1), (14, .invokestatic 91, 3), (17, .ifCond .eq 7, 3), (20, .iconst 0, 1), (21, .goto 4, 3), (24, .iconst 2, 1), (25, .invokevirtual 84, 3), (28, .ifCond .ne 5, 3), (31, .iconst 0, 1), (32, .ireturn, 1), (33, .aload_n 0, 1), (34, .iload_n 1, 1), (35, .iload_n 2, 1), (36, .iload_n 3, 1), (37, .invokevirtual 159, 3), (40, .ireturn, 1)]
theorem dc_X7_groups : dnL cX7_groups dl_X7_groups = true := by decide +kernel
theorem d_X7_groups_0 : dn cX7_groups 0 (.aload_n 0) 1 1 := dnAt dc_X7_groups 0 rfl rfl
theorem d_X7_groups_1 : dn cX7_groups 1 (.aload_n 0) 1 2 := dnAt dc_X7_groups 1 rfl rfl
theorem d_X7_groups_2 : dn cX7_groups 2 (.iload_n 1) 1 3 := dnAt dc_X7_groups 2 rfl rfl
theorem d_X7_groups_3 : dn cX7_groups 3 (.invokevirtual 153) 3 6 := dnAt dc_X7_groups 3 rfl rfl
theorem d_X7_groups_6 : dn cX7_groups 6 (.ifCond .ne 7) 3 9 := dnAt dc_X7_groups 4 rfl rfl
theorem d_X7_groups_9 : dn cX7_groups 9 (.iconst 1) 1 10 := dnAt dc_X7_groups 5 rfl rfl
theorem d_X7_groups_10 : dn cX7_groups 10 (.goto 15) 3 13 := dnAt dc_X7_groups 6 rfl rfl
theorem d_X7_groups_13 : dn cX7_groups 13 (.iload_n 2) 1 14 := dnAt dc_X7_groups 7 rfl rfl
theorem d_X7_groups_14 : dn cX7_groups 14 (.invokestatic 91) 3 17 := dnAt dc_X7_groups 8 rfl rfl
theorem d_X7_groups_17 : dn cX7_groups 17 (.ifCond .eq 7) 3 20 := dnAt dc_X7_groups 9 rfl rfl
theorem d_X7_groups_20 : dn cX7_groups 20 (.iconst 0) 1 21 := dnAt dc_X7_groups 10 rfl rfl
theorem d_X7_groups_21 : dn cX7_groups 21 (.goto 4) 3 24 := dnAt dc_X7_groups 11 rfl rfl
theorem d_X7_groups_24 : dn cX7_groups 24 (.iconst 2) 1 25 := dnAt dc_X7_groups 12 rfl rfl
theorem d_X7_groups_25 : dn cX7_groups 25 (.invokevirtual 84) 3 28 := dnAt dc_X7_groups 13 rfl rfl
theorem d_X7_groups_28 : dn cX7_groups 28 (.ifCond .ne 5) 3 31 := dnAt dc_X7_groups 14 rfl rfl
theorem d_X7_groups_31 : dn cX7_groups 31 (.iconst 0) 1 32 := dnAt dc_X7_groups 15 rfl rfl
theorem d_X7_groups_32 : dn cX7_groups 32 (.ireturn) 1 33 := dnAt dc_X7_groups 16 rfl rfl
theorem d_X7_groups_33 : dn cX7_groups 33 (.aload_n 0) 1 34 := dnAt dc_X7_groups 17 rfl rfl
theorem d_X7_groups_34 : dn cX7_groups 34 (.iload_n 1) 1 35 := dnAt dc_X7_groups 18 rfl rfl
theorem d_X7_groups_35 : dn cX7_groups 35 (.iload_n 2) 1 36 := dnAt dc_X7_groups 19 rfl rfl
theorem d_X7_groups_36 : dn cX7_groups 36 (.iload_n 3) 1 37 := dnAt dc_X7_groups 20 rfl rfl
theorem d_X7_groups_37 : dn cX7_groups 37 (.invokevirtual 159) 3 40 := dnAt dc_X7_groups 21 rfl rfl
theorem d_X7_groups_40 : dn cX7_groups 40 (.ireturn) 1 41 := dnAt dc_X7_groups 22 rfl rfl
set_option maxHeartbeats 4000000 in
set_option maxRecDepth 100000 in
theorem m_groups (S : mS) (r a : Int32) (L : Bool) (I : mInv S) : mC yX7_groups cX7_groups 4 (Option.some Jvm.ClassFile.FieldType.int) { frames := 2, cells := 0, slots := 0, locals := 49 } [.int r, .int a, .int (bI L)] S (fun v9 T9 => v9 = some (.int (nI (rGr S r a L))) ∧ ∃ f9, T9 = sN (uK S 0 (cGr S r a)) 22 f9) := by
  refine mC.of (by decide) (Nat.le_of_ble_eq_true rfl) ?_
  intro G x q h0 C A TY
  show VM G x q h0 S 0 [(0, .ref (q 0)), (1, .int r), (2, .int a), (3, .int (bI L))] []
  refine m_aload_n C d_X7_groups_0 0 rfl ?_
  have join_25 : VM G x q h0 S 25 [(0, .ref (q 0)), (1, .int r), (2, .int a), (3, .int (bI L))] [.int (nI (cGr S r a)), .ref (q 0)] := by
    refine m_callV C d_X7_groups_25 ok_RX7_84 (m_holds S (cGr S r a) (by unfold cGr; split <;> (try split) <;> omega)) rfl (rest := []) rfl rfl (Nat.le_of_ble_eq_true rfl) ⟨⟨by decide, by decide⟩, by decide, by decide⟩ (fun v9 T9 e9 => ?_)
    obtain ⟨rfl, e9⟩ := e9
    refine m_eq e9 ?_
    show VM G x q h0 (uK S 0 (cGr S r a)) 28 [(0, .ref (q 0)), (1, .int r), (2, .int a), (3, .int (bI L))] [.int (bI (decide (cGr S r a = 0)))]
    refine mb_if_ne C d_X7_groups_28 (tgt := 33) rfl (fun c_28 => ?_) (fun c_28 => ?_)
    · skip
      have c0 := of_decide_eq_true c_28
      obtain ⟨e1, e2, e3, e4, e5⟩ := cGr_0 c0
      rw [c0]
      refine m_lve (lv' := [(0, .ref (q 0)), (1, .int (nI (tn r))), (2, .int (nI (tn a))), (3, .int (bI L))]) (by rw [← e1, ← e4]) ?_
      refine m_aload_n C d_X7_groups_33 0 rfl ?_
      refine m_iload_n C d_X7_groups_34 1 rfl ?_
      refine m_iload_n C d_X7_groups_35 2 rfl ?_
      refine m_iload_n C d_X7_groups_36 3 rfl ?_
      refine m_callV C d_X7_groups_37 ok_RX7_159 (m_countsValues (uK S 0 0) (tn r) (tn a) L I e2 e3 e5) rfl (rest := []) rfl rfl (Nat.le_of_ble_eq_true rfl) ⟨⟨by decide, by decide⟩, by decide, by decide⟩ (fun v9 T9 e9 => ?_)
      obtain ⟨rfl, e9⟩ := e9
      refine m_eq e9 ?_
      show VM G x q h0 (sN (uK S 0 0) 22 (cvR (uK S 0 0) (tn r) (tn a) L 360)) 40 [(0, .ref (q 0)), (1, .int (nI (tn r))), (2, .int (nI (tn a))), (3, .int (bI L))] [.int (nI (ndM (uK S 0 0) (tn r) (tn a) L 360))]
      exact m_iret C A TY d_X7_groups_40 rfl (⟨by rw [rGr, if_pos c0]; exact congrArg (fun z => some (Value.int (nI z))) (ndM_c (S := uK S 0 0) (T := S) ⟨fun _ => rfl, fun _ => rfl, fun _ => rfl⟩ _ _ _ _), _, by rw [c0]⟩)
    · skip
      have c1 := of_decide_eq_false c_28
      refine m_iconst C d_X7_groups_31 (v := (nI 0)) rfl ?_
      exact m_iret C A TY d_X7_groups_32 rfl (⟨by rw [rGr, if_neg c1], fun z => mN S 22 z, sN_init (fun _ => rfl)⟩)
  refine m_aload_n C d_X7_groups_1 0 rfl ?_
  refine m_iload_n C d_X7_groups_2 1 rfl ?_
  refine m_callV C d_X7_groups_3 ok_RX7_153 (m_isResult S r) rfl (rest := [.ref (q 0)]) rfl rfl (Nat.le_of_ble_eq_true rfl) ⟨⟨by decide, by decide⟩, by decide, by decide⟩ (fun v9 T9 e9 => ?_)
  obtain ⟨rfl, e9⟩ := e9
  refine m_eq e9 ?_
  show VM G x q h0 S 6 [(0, .ref (q 0)), (1, .int r), (2, .int a), (3, .int (bI L))] [.int (bI (mIsR S r)), .ref (q 0)]
  refine mb_if_ne C d_X7_groups_6 (tgt := 13) rfl (fun c_6 => ?_) (fun c_6 => ?_)
  · skip
    refine m_iload_n C d_X7_groups_13 2 rfl ?_
    refine m_callS C d_X7_groups_14 ok_RX7_91 (s_isAttribute a) (rest := [.ref (q 0)]) rfl rfl (Nat.le_of_ble_eq_true rfl) ⟨⟨by decide, by decide⟩, by decide, by decide⟩ ?_
    show VM G x q h0 S 17 [(0, .ref (q 0)), (1, .int r), (2, .int a), (3, .int (bI L))] [.int (bI (inR a 0 2)), .ref (q 0)]
    refine mb_if_eq C d_X7_groups_17 (tgt := 24) rfl (fun c_17 => ?_) (fun c_17 => ?_)
    · skip
      refine m_iconst C d_X7_groups_24 (v := (nI 2)) rfl ?_
      refine m_st (st' := [.int (nI (cGr S r a)), .ref (q 0)]) (by rw [cGr, if_pos c_6, if_neg (by rw [c_17]; decide)]) ?_
      exact join_25  
    · skip
      refine m_iconst C d_X7_groups_20 (v := (nI 0)) rfl ?_
      refine m_goto C d_X7_groups_21 (tgt := 25) rfl ?_
      refine m_st (st' := [.int (nI (cGr S r a)), .ref (q 0)]) (by rw [cGr, if_pos c_6, if_pos c_17]) ?_
      exact join_25  
  · skip
    refine m_iconst C d_X7_groups_9 (v := (nI 1)) rfl ?_
    refine m_goto C d_X7_groups_10 (tgt := 25) rfl ?_
    refine m_st (st' := [.int (nI (cGr S r a)), .ref (q 0)]) (by rw [cGr, if_neg (by rw [c_6]; decide)]) ?_
    exact join_25  
def dl_X7_groupAt : List (Nat × Instr × Nat) := [(0, .aload_n 0, 1), (1, .iload_n 1, 1), (2, .invokevirtual 153, 3), (5, .istore 5, 2), (7, .iload 5, 2), (9, .ifCond .eq 14, 3), (12, .iload_n 2, 1), (13, .invokestatic 91, 3), (16, .ifCond .eq 7, 3), (19, .iconst 1, 1), (20, .goto 4, 3), (23, .iconst 0, 1), (24, .istore 6, 2), (26, .aload_n 0, 1), (27, .iload 5, 2), (29, .ifCond .ne 7, 3), (32, .iconst 1, 1), (33, .goto 35, 3), (36, .iload 6, 2), (38, .ifCond .ne 7, 3), (41, .iconst 2, 1), (42, .goto 26, 3), (45, .iload 4, 2), (47, .iconst 0, 1), (48, .aload_n 0, 1), (49, .iload_n 1, 1), (50, .iload_n 2, 1), (51, .iload_n 3, 1), (52, .invokevirtual 159, 3), (55, .iconst 1, 1), (56, .isub, 1), (57, .invokestatic 76, 3), (60, .ifCond .eq 7, 3), (63, .iconst 0, 1), (64, .goto 4, 3), (67, .iconst 1, 1), (68, .invokevirtual 84, 3), (71, .ifCond .ne 5, 3), (74, .iconst 0, 1), (75, .ireturn, 1), (76, .iconst 0, 1), (77, .istore 7, 2), (79, .iconst 0, 1), (80, .istore 8, 2), (82, .iload 8, 2), (84, .bipush 100, 2), (86, .if_icmp .ge 95, 3), (89, .iconst 0, 1), (90, .istore 9, 2), (92, .iconst 0, 1), (93, .istore 10, 2), (95, .iload 10, 2), (97, .bipush 100, 2), (99, .if_icmp .ge 60, 3), (102, .iload 9, 2), (104, .aload_n 0, 1), (105, .getfield 69, 3), (108, .iload 10, 2), (110, .iaload, 1), (111, .aload_n 0, 1), (112, .getfield 69, 3), (115, .iload 8, 2), (117, .iaload, 1), (118, .if_icmp .gt 27, 3), (121, .aload_n 0, 1), (122, .getfield 69, 3), (125, .iload 10, 2), (127, .iaload, 1), (128, .aload_n 0, 1), (129, .getfield 69, 3), (132, .iload 8, 2), (134, .iaload, 1), (135, .if_icmp .ne 14, 3), (138, .iload 10, 2), (140, .iload 8, 2), (142, .if_icmp .ge 7, 3), (145, .iconst 1, 1), (146, .goto 4, 3), (149, .iconst 0, 1), (150, .iadd, 1), (151, .istore 9, 2), (153, .iinc 10 1, 3), (156, .goto (-61), 3), (159, .iload 9, 2), (161, .iload 4, 2), (163, .if_icmp .ne 8, 3), (166, .iload 8, 2), (168, .goto 5, 3), (171, .iload 7, 2), (173, .istore 7, 2), (175, .iinc 8 1, 3), (178, .goto (-96), 3), (181, .sipush 1000, 3), (184, .aload_n 0, 1), (185, .getfield 69, 3), (188, .iload 7, 2), (190, .iaload, 1), (191, .imul, 1), (192, .iload 7, 2), (194, .iadd, 1), (195, .ireturn, 1)]
theorem dc_X7_groupAt : dnL cX7_groupAt dl_X7_groupAt = true := by decide +kernel
theorem d_X7_groupAt_0 : dn cX7_groupAt 0 (.aload_n 0) 1 1 := dnAt dc_X7_groupAt 0 rfl rfl
theorem d_X7_groupAt_1 : dn cX7_groupAt 1 (.iload_n 1) 1 2 := dnAt dc_X7_groupAt 1 rfl rfl
theorem d_X7_groupAt_2 : dn cX7_groupAt 2 (.invokevirtual 153) 3 5 := dnAt dc_X7_groupAt 2 rfl rfl
theorem d_X7_groupAt_5 : dn cX7_groupAt 5 (.istore 5) 2 7 := dnAt dc_X7_groupAt 3 rfl rfl
theorem d_X7_groupAt_7 : dn cX7_groupAt 7 (.iload 5) 2 9 := dnAt dc_X7_groupAt 4 rfl rfl
theorem d_X7_groupAt_9 : dn cX7_groupAt 9 (.ifCond .eq 14) 3 12 := dnAt dc_X7_groupAt 5 rfl rfl
theorem d_X7_groupAt_12 : dn cX7_groupAt 12 (.iload_n 2) 1 13 := dnAt dc_X7_groupAt 6 rfl rfl
theorem d_X7_groupAt_13 : dn cX7_groupAt 13 (.invokestatic 91) 3 16 := dnAt dc_X7_groupAt 7 rfl rfl
theorem d_X7_groupAt_16 : dn cX7_groupAt 16 (.ifCond .eq 7) 3 19 := dnAt dc_X7_groupAt 8 rfl rfl
theorem d_X7_groupAt_19 : dn cX7_groupAt 19 (.iconst 1) 1 20 := dnAt dc_X7_groupAt 9 rfl rfl
theorem d_X7_groupAt_20 : dn cX7_groupAt 20 (.goto 4) 3 23 := dnAt dc_X7_groupAt 10 rfl rfl
theorem d_X7_groupAt_23 : dn cX7_groupAt 23 (.iconst 0) 1 24 := dnAt dc_X7_groupAt 11 rfl rfl
theorem d_X7_groupAt_24 : dn cX7_groupAt 24 (.istore 6) 2 26 := dnAt dc_X7_groupAt 12 rfl rfl
theorem d_X7_groupAt_26 : dn cX7_groupAt 26 (.aload_n 0) 1 27 := dnAt dc_X7_groupAt 13 rfl rfl
theorem d_X7_groupAt_27 : dn cX7_groupAt 27 (.iload 5) 2 29 := dnAt dc_X7_groupAt 14 rfl rfl
theorem d_X7_groupAt_29 : dn cX7_groupAt 29 (.ifCond .ne 7) 3 32 := dnAt dc_X7_groupAt 15 rfl rfl
theorem d_X7_groupAt_32 : dn cX7_groupAt 32 (.iconst 1) 1 33 := dnAt dc_X7_groupAt 16 rfl rfl
theorem d_X7_groupAt_33 : dn cX7_groupAt 33 (.goto 35) 3 36 := dnAt dc_X7_groupAt 17 rfl rfl
theorem d_X7_groupAt_36 : dn cX7_groupAt 36 (.iload 6) 2 38 := dnAt dc_X7_groupAt 18 rfl rfl
theorem d_X7_groupAt_38 : dn cX7_groupAt 38 (.ifCond .ne 7) 3 41 := dnAt dc_X7_groupAt 19 rfl rfl
theorem d_X7_groupAt_41 : dn cX7_groupAt 41 (.iconst 2) 1 42 := dnAt dc_X7_groupAt 20 rfl rfl
theorem d_X7_groupAt_42 : dn cX7_groupAt 42 (.goto 26) 3 45 := dnAt dc_X7_groupAt 21 rfl rfl
theorem d_X7_groupAt_45 : dn cX7_groupAt 45 (.iload 4) 2 47 := dnAt dc_X7_groupAt 22 rfl rfl
theorem d_X7_groupAt_47 : dn cX7_groupAt 47 (.iconst 0) 1 48 := dnAt dc_X7_groupAt 23 rfl rfl
theorem d_X7_groupAt_48 : dn cX7_groupAt 48 (.aload_n 0) 1 49 := dnAt dc_X7_groupAt 24 rfl rfl
theorem d_X7_groupAt_49 : dn cX7_groupAt 49 (.iload_n 1) 1 50 := dnAt dc_X7_groupAt 25 rfl rfl
theorem d_X7_groupAt_50 : dn cX7_groupAt 50 (.iload_n 2) 1 51 := dnAt dc_X7_groupAt 26 rfl rfl
theorem d_X7_groupAt_51 : dn cX7_groupAt 51 (.iload_n 3) 1 52 := dnAt dc_X7_groupAt 27 rfl rfl
theorem d_X7_groupAt_52 : dn cX7_groupAt 52 (.invokevirtual 159) 3 55 := dnAt dc_X7_groupAt 28 rfl rfl
theorem d_X7_groupAt_55 : dn cX7_groupAt 55 (.iconst 1) 1 56 := dnAt dc_X7_groupAt 29 rfl rfl
theorem d_X7_groupAt_56 : dn cX7_groupAt 56 (.isub) 1 57 := dnAt dc_X7_groupAt 30 rfl rfl
theorem d_X7_groupAt_57 : dn cX7_groupAt 57 (.invokestatic 76) 3 60 := dnAt dc_X7_groupAt 31 rfl rfl
theorem d_X7_groupAt_60 : dn cX7_groupAt 60 (.ifCond .eq 7) 3 63 := dnAt dc_X7_groupAt 32 rfl rfl
theorem d_X7_groupAt_63 : dn cX7_groupAt 63 (.iconst 0) 1 64 := dnAt dc_X7_groupAt 33 rfl rfl
theorem d_X7_groupAt_64 : dn cX7_groupAt 64 (.goto 4) 3 67 := dnAt dc_X7_groupAt 34 rfl rfl
theorem d_X7_groupAt_67 : dn cX7_groupAt 67 (.iconst 1) 1 68 := dnAt dc_X7_groupAt 35 rfl rfl
theorem d_X7_groupAt_68 : dn cX7_groupAt 68 (.invokevirtual 84) 3 71 := dnAt dc_X7_groupAt 36 rfl rfl
theorem d_X7_groupAt_71 : dn cX7_groupAt 71 (.ifCond .ne 5) 3 74 := dnAt dc_X7_groupAt 37 rfl rfl
theorem d_X7_groupAt_74 : dn cX7_groupAt 74 (.iconst 0) 1 75 := dnAt dc_X7_groupAt 38 rfl rfl
theorem d_X7_groupAt_75 : dn cX7_groupAt 75 (.ireturn) 1 76 := dnAt dc_X7_groupAt 39 rfl rfl
theorem d_X7_groupAt_76 : dn cX7_groupAt 76 (.iconst 0) 1 77 := dnAt dc_X7_groupAt 40 rfl rfl
theorem d_X7_groupAt_77 : dn cX7_groupAt 77 (.istore 7) 2 79 := dnAt dc_X7_groupAt 41 rfl rfl
theorem d_X7_groupAt_79 : dn cX7_groupAt 79 (.iconst 0) 1 80 := dnAt dc_X7_groupAt 42 rfl rfl
theorem d_X7_groupAt_80 : dn cX7_groupAt 80 (.istore 8) 2 82 := dnAt dc_X7_groupAt 43 rfl rfl
theorem d_X7_groupAt_82 : dn cX7_groupAt 82 (.iload 8) 2 84 := dnAt dc_X7_groupAt 44 rfl rfl
theorem d_X7_groupAt_84 : dn cX7_groupAt 84 (.bipush 100) 2 86 := dnAt dc_X7_groupAt 45 rfl rfl
theorem d_X7_groupAt_86 : dn cX7_groupAt 86 (.if_icmp .ge 95) 3 89 := dnAt dc_X7_groupAt 46 rfl rfl
theorem d_X7_groupAt_89 : dn cX7_groupAt 89 (.iconst 0) 1 90 := dnAt dc_X7_groupAt 47 rfl rfl
theorem d_X7_groupAt_90 : dn cX7_groupAt 90 (.istore 9) 2 92 := dnAt dc_X7_groupAt 48 rfl rfl
theorem d_X7_groupAt_92 : dn cX7_groupAt 92 (.iconst 0) 1 93 := dnAt dc_X7_groupAt 49 rfl rfl
theorem d_X7_groupAt_93 : dn cX7_groupAt 93 (.istore 10) 2 95 := dnAt dc_X7_groupAt 50 rfl rfl
theorem d_X7_groupAt_95 : dn cX7_groupAt 95 (.iload 10) 2 97 := dnAt dc_X7_groupAt 51 rfl rfl
theorem d_X7_groupAt_97 : dn cX7_groupAt 97 (.bipush 100) 2 99 := dnAt dc_X7_groupAt 52 rfl rfl
theorem d_X7_groupAt_99 : dn cX7_groupAt 99 (.if_icmp .ge 60) 3 102 := dnAt dc_X7_groupAt 53 rfl rfl
theorem d_X7_groupAt_102 : dn cX7_groupAt 102 (.iload 9) 2 104 := dnAt dc_X7_groupAt 54 rfl rfl
theorem d_X7_groupAt_104 : dn cX7_groupAt 104 (.aload_n 0) 1 105 := dnAt dc_X7_groupAt 55 rfl rfl
theorem d_X7_groupAt_105 : dn cX7_groupAt 105 (.getfield 69) 3 108 := dnAt dc_X7_groupAt 56 rfl rfl
theorem d_X7_groupAt_108 : dn cX7_groupAt 108 (.iload 10) 2 110 := dnAt dc_X7_groupAt 57 rfl rfl
theorem d_X7_groupAt_110 : dn cX7_groupAt 110 (.iaload) 1 111 := dnAt dc_X7_groupAt 58 rfl rfl
theorem d_X7_groupAt_111 : dn cX7_groupAt 111 (.aload_n 0) 1 112 := dnAt dc_X7_groupAt 59 rfl rfl
theorem d_X7_groupAt_112 : dn cX7_groupAt 112 (.getfield 69) 3 115 := dnAt dc_X7_groupAt 60 rfl rfl
theorem d_X7_groupAt_115 : dn cX7_groupAt 115 (.iload 8) 2 117 := dnAt dc_X7_groupAt 61 rfl rfl
theorem d_X7_groupAt_117 : dn cX7_groupAt 117 (.iaload) 1 118 := dnAt dc_X7_groupAt 62 rfl rfl
theorem d_X7_groupAt_118 : dn cX7_groupAt 118 (.if_icmp .gt 27) 3 121 := dnAt dc_X7_groupAt 63 rfl rfl
theorem d_X7_groupAt_121 : dn cX7_groupAt 121 (.aload_n 0) 1 122 := dnAt dc_X7_groupAt 64 rfl rfl
theorem d_X7_groupAt_122 : dn cX7_groupAt 122 (.getfield 69) 3 125 := dnAt dc_X7_groupAt 65 rfl rfl
theorem d_X7_groupAt_125 : dn cX7_groupAt 125 (.iload 10) 2 127 := dnAt dc_X7_groupAt 66 rfl rfl
theorem d_X7_groupAt_127 : dn cX7_groupAt 127 (.iaload) 1 128 := dnAt dc_X7_groupAt 67 rfl rfl
theorem d_X7_groupAt_128 : dn cX7_groupAt 128 (.aload_n 0) 1 129 := dnAt dc_X7_groupAt 68 rfl rfl
theorem d_X7_groupAt_129 : dn cX7_groupAt 129 (.getfield 69) 3 132 := dnAt dc_X7_groupAt 69 rfl rfl
theorem d_X7_groupAt_132 : dn cX7_groupAt 132 (.iload 8) 2 134 := dnAt dc_X7_groupAt 70 rfl rfl
theorem d_X7_groupAt_134 : dn cX7_groupAt 134 (.iaload) 1 135 := dnAt dc_X7_groupAt 71 rfl rfl
theorem d_X7_groupAt_135 : dn cX7_groupAt 135 (.if_icmp .ne 14) 3 138 := dnAt dc_X7_groupAt 72 rfl rfl
theorem d_X7_groupAt_138 : dn cX7_groupAt 138 (.iload 10) 2 140 := dnAt dc_X7_groupAt 73 rfl rfl
theorem d_X7_groupAt_140 : dn cX7_groupAt 140 (.iload 8) 2 142 := dnAt dc_X7_groupAt 74 rfl rfl
theorem d_X7_groupAt_142 : dn cX7_groupAt 142 (.if_icmp .ge 7) 3 145 := dnAt dc_X7_groupAt 75 rfl rfl
theorem d_X7_groupAt_145 : dn cX7_groupAt 145 (.iconst 1) 1 146 := dnAt dc_X7_groupAt 76 rfl rfl
theorem d_X7_groupAt_146 : dn cX7_groupAt 146 (.goto 4) 3 149 := dnAt dc_X7_groupAt 77 rfl rfl
theorem d_X7_groupAt_149 : dn cX7_groupAt 149 (.iconst 0) 1 150 := dnAt dc_X7_groupAt 78 rfl rfl
theorem d_X7_groupAt_150 : dn cX7_groupAt 150 (.iadd) 1 151 := dnAt dc_X7_groupAt 79 rfl rfl
theorem d_X7_groupAt_151 : dn cX7_groupAt 151 (.istore 9) 2 153 := dnAt dc_X7_groupAt 80 rfl rfl
theorem d_X7_groupAt_153 : dn cX7_groupAt 153 (.iinc 10 1) 3 156 := dnAt dc_X7_groupAt 81 rfl rfl
theorem d_X7_groupAt_156 : dn cX7_groupAt 156 (.goto (-61)) 3 159 := dnAt dc_X7_groupAt 82 rfl rfl
theorem d_X7_groupAt_159 : dn cX7_groupAt 159 (.iload 9) 2 161 := dnAt dc_X7_groupAt 83 rfl rfl
theorem d_X7_groupAt_161 : dn cX7_groupAt 161 (.iload 4) 2 163 := dnAt dc_X7_groupAt 84 rfl rfl
theorem d_X7_groupAt_163 : dn cX7_groupAt 163 (.if_icmp .ne 8) 3 166 := dnAt dc_X7_groupAt 85 rfl rfl
theorem d_X7_groupAt_166 : dn cX7_groupAt 166 (.iload 8) 2 168 := dnAt dc_X7_groupAt 86 rfl rfl
theorem d_X7_groupAt_168 : dn cX7_groupAt 168 (.goto 5) 3 171 := dnAt dc_X7_groupAt 87 rfl rfl
theorem d_X7_groupAt_171 : dn cX7_groupAt 171 (.iload 7) 2 173 := dnAt dc_X7_groupAt 88 rfl rfl
theorem d_X7_groupAt_173 : dn cX7_groupAt 173 (.istore 7) 2 175 := dnAt dc_X7_groupAt 89 rfl rfl
theorem d_X7_groupAt_175 : dn cX7_groupAt 175 (.iinc 8 1) 3 178 := dnAt dc_X7_groupAt 90 rfl rfl
theorem d_X7_groupAt_178 : dn cX7_groupAt 178 (.goto (-96)) 3 181 := dnAt dc_X7_groupAt 91 rfl rfl
theorem d_X7_groupAt_181 : dn cX7_groupAt 181 (.sipush 1000) 3 184 := dnAt dc_X7_groupAt 92 rfl rfl
theorem d_X7_groupAt_184 : dn cX7_groupAt 184 (.aload_n 0) 1 185 := dnAt dc_X7_groupAt 93 rfl rfl
theorem d_X7_groupAt_185 : dn cX7_groupAt 185 (.getfield 69) 3 188 := dnAt dc_X7_groupAt 94 rfl rfl
theorem d_X7_groupAt_188 : dn cX7_groupAt 188 (.iload 7) 2 190 := dnAt dc_X7_groupAt 95 rfl rfl
theorem d_X7_groupAt_190 : dn cX7_groupAt 190 (.iaload) 1 191 := dnAt dc_X7_groupAt 96 rfl rfl
theorem d_X7_groupAt_191 : dn cX7_groupAt 191 (.imul) 1 192 := dnAt dc_X7_groupAt 97 rfl rfl
theorem d_X7_groupAt_192 : dn cX7_groupAt 192 (.iload 7) 2 194 := dnAt dc_X7_groupAt 98 rfl rfl
theorem d_X7_groupAt_194 : dn cX7_groupAt 194 (.iadd) 1 195 := dnAt dc_X7_groupAt 99 rfl rfl
theorem d_X7_groupAt_195 : dn cX7_groupAt 195 (.ireturn) 1 196 := dnAt dc_X7_groupAt 100 rfl rfl
set_option maxHeartbeats 4000000 in
set_option maxRecDepth 100000 in
theorem m_groupAt (S : mS) (r a : Int32) (L : Bool) (g : Int32) (I : mInv S) : mC yX7_groupAt cX7_groupAt 11 (Option.some Jvm.ClassFile.FieldType.int) { frames := 2, cells := 0, slots := 0, locals := 49 } [.int r, .int a, .int (bI L), .int g] S (fun v9 T9 => v9 = some (.int (nI (rGA S r a L g))) ∧ ∃ f9, T9 = sN (uK S 0 (cGA S r a L g)) 22 f9) := by
  refine mC.of (by decide) (Nat.le_of_ble_eq_true rfl) ?_
  intro G x q h0 C A TY
  show VM G x q h0 S 0 [(0, .ref (q 0)), (1, .int r), (2, .int a), (3, .int (bI L)), (4, .int g)] []
  refine m_aload_n C d_X7_groupAt_0 0 rfl ?_
  refine m_iload_n C d_X7_groupAt_1 1 rfl ?_
  refine m_callV C d_X7_groupAt_2 ok_RX7_153 (m_isResult S r) rfl (rest := []) rfl rfl (Nat.le_of_ble_eq_true rfl) ⟨⟨by decide, by decide⟩, by decide, by decide⟩ (fun v9 T9 e9 => ?_)
  obtain ⟨rfl, e9⟩ := e9
  refine m_eq e9 ?_
  show VM G x q h0 S 5 [(0, .ref (q 0)), (1, .int r), (2, .int a), (3, .int (bI L)), (4, .int g)] [.int (bI (mIsR S r))]
  refine m_istore C d_X7_groupAt_5 (lv' := [(5, .int (bI (mIsR S r))), (0, .ref (q 0)), (1, .int r), (2, .int a), (3, .int (bI L)), (4, .int g)]) (by decide) rfl ?_
  have join_24 : VM G x q h0 S 24 [(0, .ref (q 0)), (1, .int r), (2, .int a), (3, .int (bI L)), (4, .int g), (5, .int (bI (mIsR S r)))] [.int (bI (mIsR S r && inR a 0 2))] := by
    refine m_istore C d_X7_groupAt_24 (lv' := [(6, .int (bI (mIsR S r && inR a 0 2))), (0, .ref (q 0)), (1, .int r), (2, .int a), (3, .int (bI L)), (4, .int g), (5, .int (bI (mIsR S r)))]) (by decide) rfl ?_
    have join_68 : ∀ (f : Nat → Nat), (cGA S r a L g = 0 → ∀ z, z < 100 → f z = cvM S (tn r) (tn a) L 360 z) → VM G x q h0 (sN S 22 f) 68 [(0, .ref (q 0)), (1, .int r), (2, .int a), (3, .int (bI L)), (4, .int g)] [.int (nI (cGA S r a L g)), .ref (q 0)] := by
      intro f hf
      refine m_callV C d_X7_groupAt_68 ok_RX7_84 (m_holds (sN S 22 f) (cGA S r a L g) (by unfold cGA; split <;> (try split) <;> (try split) <;> omega)) rfl (rest := []) rfl rfl (Nat.le_of_ble_eq_true rfl) ⟨⟨by decide, by decide⟩, by decide, by decide⟩ (fun v9 T9 e9 => ?_)
      obtain ⟨rfl, e9⟩ := e9
      refine m_eq e9 ?_
      show VM G x q h0 (uK (sN S 22 f) 0 (cGA S r a L g)) 71 [(0, .ref (q 0)), (1, .int r), (2, .int a), (3, .int (bI L)), (4, .int g)] [.int (bI (decide (cGA S r a L g = 0)))]
      refine mb_if_ne C d_X7_groupAt_71 (tgt := 76) rfl (fun c_71 => ?_) (fun c_71 => ?_)
      · skip
        have c0 := of_decide_eq_true c_71
        replace hf := hf c0
        obtain ⟨e1, e2, e3, e4, e5, e6, e7⟩ := cGA_0 c0
        rw [c0]
        refine m_lve (lv' := [(0, .ref (q 0)), (1, .int (nI (tn r))), (2, .int (nI (tn a))), (3, .int (bI L)), (4, .int (nI (tn g)))]) (by rw [← e1, ← e4, ← e6]) ?_
        refine m_iconst C d_X7_groupAt_76 (v := (nI 0)) rfl ?_
        refine m_istore C d_X7_groupAt_77 (lv' := [(7, .int (nI 0)), (0, .ref (q 0)), (1, .int (nI (tn r))), (2, .int (nI (tn a))), (3, .int (bI L)), (4, .int (nI (tn g)))]) (by decide) rfl ?_
        refine m_iconst C d_X7_groupAt_79 (v := (nI 0)) rfl ?_
        refine m_istore C d_X7_groupAt_80 (lv' := [(8, .int (nI 0)), (7, .int (nI 0)), (0, .ref (q 0)), (1, .int (nI (tn r))), (2, .int (nI (tn a))), (3, .int (bI L)), (4, .int (nI (tn g)))]) (by decide) rfl ?_
        have loop_82 : ∀ (fuel : Nat) (v : Nat), (v ≤ 100) → (101 - v) < fuel → VM G x q h0 (uK (sN S 22 f) 0 0) 82 [(0, .ref (q 0)), (1, .int (nI (tn r))), (2, .int (nI (tn a))), (3, .int (bI L)), (4, .int (nI (tn g))), (7, .int (nI (fdG (cvM S (tn r) (tn a) L 360) (tn g) v))), (8, .int (nI v))] [] := by
          intro fuel
          induction fuel with
          | zero => intro v hv hf9; exact absurd hf9 (Nat.not_lt_zero _)
          | succ fuel ih_82 =>
            intro v hv hf9
            refine m_iload C d_X7_groupAt_82 6 rfl ?_
            refine m_bipush C d_X7_groupAt_84 (v := (nI 100)) rfl ?_
            refine mn_icmp_ge C d_X7_groupAt_86 (tgt := 181) rfl (by omega) (by omega) (fun c_86 => ?_) (fun c_86 => ?_)
            · skip
              have hfd := fdG_lt (cvM S (tn r) (tn a) L 360) (tn g) 100
              obtain rfl : v = 100 := by omega
              refine m_sipush C d_X7_groupAt_181 (v := (nI 1000)) rfl ?_
              refine m_aload_n C d_X7_groupAt_184 0 rfl ?_
              refine m_get C d_X7_groupAt_185 fd_RX7_69 (v := .ref (q 22)) rfl ?_
              refine m_iload C d_X7_groupAt_188 5 rfl ?_
              refine m_ald C d_X7_groupAt_190 (k := 22) (by decide) rfl (by show _ < 100; omega) (by decide) ?_
              refine m_st (st' := [.int (nI (mN (sN S 22 f) 22 (fdG (cvM S (tn r) (tn a) L 360) (tn g) 100))), .int (nI 1000)]) rfl ?_
              refine m_st (st' := [.int (nI (cvM S (tn r) (tn a) L 360 (fdG (cvM S (tn r) (tn a) L 360) (tn g) 100))), .int (nI 1000)]) (by rw [show mN (sN S 22 f) 22 (fdG (cvM S (tn r) (tn a) L 360) (tn g) 100) = cvM S (tn r) (tn a) L 360 (fdG (cvM S (tn r) (tn a) L 360) (tn g) 100) from hf (fdG (cvM S (tn r) (tn a) L 360) (tn g) 100) (by omega)]) ?_
              refine mn_imul C d_X7_groupAt_191 ?_
              refine m_iload C d_X7_groupAt_192 5 rfl ?_
              refine mn_iadd C d_X7_groupAt_194 ?_
              exact m_iret C A TY d_X7_groupAt_195 rfl (⟨by rw [rGA, if_pos c0], f, by rw [c0]; rfl⟩)
            · skip
              refine m_iconst C d_X7_groupAt_89 (v := (nI 0)) rfl ?_
              refine m_istore C d_X7_groupAt_90 (lv' := [(9, .int (nI 0)), (0, .ref (q 0)), (1, .int (nI (tn r))), (2, .int (nI (tn a))), (3, .int (bI L)), (4, .int (nI (tn g))), (7, .int (nI (fdG (cvM S (tn r) (tn a) L 360) (tn g) v))), (8, .int (nI v))]) (by decide) rfl ?_
              refine m_iconst C d_X7_groupAt_92 (v := (nI 0)) rfl ?_
              refine m_istore C d_X7_groupAt_93 (lv' := [(10, .int (nI 0)), (9, .int (nI 0)), (0, .ref (q 0)), (1, .int (nI (tn r))), (2, .int (nI (tn a))), (3, .int (bI L)), (4, .int (nI (tn g))), (7, .int (nI (fdG (cvM S (tn r) (tn a) L 360) (tn g) v))), (8, .int (nI v))]) (by decide) rfl ?_
              have loop_95 : ∀ (fuel : Nat) (k : Nat), (k ≤ 100) → (101 - k) < fuel → VM G x q h0 (uK (sN S 22 f) 0 0) 95 [(0, .ref (q 0)), (1, .int (nI (tn r))), (2, .int (nI (tn a))), (3, .int (bI L)), (4, .int (nI (tn g))), (7, .int (nI (fdG (cvM S (tn r) (tn a) L 360) (tn g) v))), (8, .int (nI v)), (9, .int (nI (ahM (cvM S (tn r) (tn a) L 360) v k))), (10, .int (nI k))] [] := by
                intro fuel
                induction fuel with
                | zero => intro k hk hf9; exact absurd hf9 (Nat.not_lt_zero _)
                | succ fuel ih_95 =>
                  intro k hk hf9
                  refine m_iload C d_X7_groupAt_95 8 rfl ?_
                  refine m_bipush C d_X7_groupAt_97 (v := (nI 100)) rfl ?_
                  refine mn_icmp_ge C d_X7_groupAt_99 (tgt := 159) rfl (by omega) (by omega) (fun c_99 => ?_) (fun c_99 => ?_)
                  · skip
                    have join_173 : VM G x q h0 (uK (sN S 22 f) 0 0) 173 [(0, .ref (q 0)), (1, .int (nI (tn r))), (2, .int (nI (tn a))), (3, .int (bI L)), (4, .int (nI (tn g))), (8, .int (nI v))] [.int (nI (fdG (cvM S (tn r) (tn a) L 360) (tn g) (v + 1)))] := by
                      refine m_istore C d_X7_groupAt_173 (lv' := [(7, .int (nI (fdG (cvM S (tn r) (tn a) L 360) (tn g) (v + 1)))), (0, .ref (q 0)), (1, .int (nI (tn r))), (2, .int (nI (tn a))), (3, .int (bI L)), (4, .int (nI (tn g))), (8, .int (nI v))]) (by decide) rfl ?_
                      refine mn_iinc C d_X7_groupAt_175 (lv' := [(8, .int (nI (v + 1))), (7, .int (nI (fdG (cvM S (tn r) (tn a) L 360) (tn g) (v + 1)))), (0, .ref (q 0)), (1, .int (nI (tn r))), (2, .int (nI (tn a))), (3, .int (bI L)), (4, .int (nI (tn g)))]) 6 rfl (nI_inc _ rfl) (by decide) rfl ?_
                      refine m_goto C d_X7_groupAt_178 (tgt := 82) rfl ?_
                      refine m_lv (lv' := [(0, .ref (q 0)), (1, .int (nI (tn r))), (2, .int (nI (tn a))), (3, .int (bI L)), (4, .int (nI (tn g))), (7, .int (nI (fdG (cvM S (tn r) (tn a) L 360) (tn g) (v + 1)))), (8, .int (nI (v + 1)))]) [2, 3, 4, 5, 6, 1, 0] rfl ?_
                      exact ih_82 (v + 1) (by omega) (by omega)
                    obtain rfl : k = 100 := by omega
                    refine m_iload C d_X7_groupAt_159 7 rfl ?_
                    refine m_iload C d_X7_groupAt_161 4 rfl ?_
                    refine mn_icmp_ne C d_X7_groupAt_163 (tgt := 171) rfl (by have := ahM_le (cvM S (tn r) (tn a) L 360) v 100; omega) (by omega) (fun c_163 => ?_) (fun c_163 => ?_)
                    · skip
                      refine m_iload C d_X7_groupAt_171 5 rfl ?_
                      refine m_lv (lv' := [(0, .ref (q 0)), (1, .int (nI (tn r))), (2, .int (nI (tn a))), (3, .int (bI L)), (4, .int (nI (tn g))), (8, .int (nI v))]) [0, 1, 2, 3, 4, 6] rfl ?_
                      refine m_st (st' := [.int (nI (fdG (cvM S (tn r) (tn a) L 360) (tn g) (v + 1)))]) (by rw [fdG, if_neg c_163]) ?_
                      exact join_173  
                    · skip
                      refine m_iload C d_X7_groupAt_166 6 rfl ?_
                      refine m_goto C d_X7_groupAt_168 (tgt := 173) rfl ?_
                      refine m_lv (lv' := [(0, .ref (q 0)), (1, .int (nI (tn r))), (2, .int (nI (tn a))), (3, .int (bI L)), (4, .int (nI (tn g))), (8, .int (nI v))]) [0, 1, 2, 3, 4, 6] rfl ?_
                      refine m_st (st' := [.int (nI (fdG (cvM S (tn r) (tn a) L 360) (tn g) (v + 1)))]) (by rw [fdG, if_pos c_163]) ?_
                      exact join_173  
                  · skip
                    have join_150 : VM G x q h0 (uK (sN S 22 f) 0 0) 150 [(0, .ref (q 0)), (1, .int (nI (tn r))), (2, .int (nI (tn a))), (3, .int (bI L)), (4, .int (nI (tn g))), (7, .int (nI (fdG (cvM S (tn r) (tn a) L 360) (tn g) v))), (8, .int (nI v)), (9, .int (nI (ahM (cvM S (tn r) (tn a) L 360) v k))), (10, .int (nI k))] [.int (nI (if cvM S (tn r) (tn a) L 360 v < cvM S (tn r) (tn a) L 360 k ∨ cvM S (tn r) (tn a) L 360 k = cvM S (tn r) (tn a) L 360 v ∧ k < v then 1 else 0)), .int (nI (ahM (cvM S (tn r) (tn a) L 360) v k))] := by
                      refine mn_iadd C d_X7_groupAt_150 ?_
                      refine m_istore C d_X7_groupAt_151 (lv' := [(9, .int (nI ((ahM (cvM S (tn r) (tn a) L 360) v k) + (if cvM S (tn r) (tn a) L 360 v < cvM S (tn r) (tn a) L 360 k ∨ cvM S (tn r) (tn a) L 360 k = cvM S (tn r) (tn a) L 360 v ∧ k < v then 1 else 0)))), (0, .ref (q 0)), (1, .int (nI (tn r))), (2, .int (nI (tn a))), (3, .int (bI L)), (4, .int (nI (tn g))), (7, .int (nI (fdG (cvM S (tn r) (tn a) L 360) (tn g) v))), (8, .int (nI v)), (10, .int (nI k))]) (by decide) rfl ?_
                      refine mn_iinc C d_X7_groupAt_153 (lv' := [(10, .int (nI (k + 1))), (9, .int (nI ((ahM (cvM S (tn r) (tn a) L 360) v k) + (if cvM S (tn r) (tn a) L 360 v < cvM S (tn r) (tn a) L 360 k ∨ cvM S (tn r) (tn a) L 360 k = cvM S (tn r) (tn a) L 360 v ∧ k < v then 1 else 0)))), (0, .ref (q 0)), (1, .int (nI (tn r))), (2, .int (nI (tn a))), (3, .int (bI L)), (4, .int (nI (tn g))), (7, .int (nI (fdG (cvM S (tn r) (tn a) L 360) (tn g) v))), (8, .int (nI v))]) 8 rfl (nI_inc _ rfl) (by decide) rfl ?_
                      refine m_goto C d_X7_groupAt_156 (tgt := 95) rfl ?_
                      refine m_lv (lv' := [(0, .ref (q 0)), (1, .int (nI (tn r))), (2, .int (nI (tn a))), (3, .int (bI L)), (4, .int (nI (tn g))), (7, .int (nI (fdG (cvM S (tn r) (tn a) L 360) (tn g) v))), (8, .int (nI v)), (9, .int (nI ((ahM (cvM S (tn r) (tn a) L 360) v k) + (if cvM S (tn r) (tn a) L 360 v < cvM S (tn r) (tn a) L 360 k ∨ cvM S (tn r) (tn a) L 360 k = cvM S (tn r) (tn a) L 360 v ∧ k < v then 1 else 0)))), (10, .int (nI (k + 1)))]) [2, 3, 4, 5, 6, 7, 8, 1, 0] rfl ?_
                      refine m_lve (lv' := [(0, .ref (q 0)), (1, .int (nI (tn r))), (2, .int (nI (tn a))), (3, .int (bI L)), (4, .int (nI (tn g))), (7, .int (nI (fdG (cvM S (tn r) (tn a) L 360) (tn g) v))), (8, .int (nI v)), (9, .int (nI (ahM (cvM S (tn r) (tn a) L 360) v (k + 1)))), (10, .int (nI (k + 1)))]) (rfl) ?_
                      exact ih_95 (k + 1) (by omega) (by omega)
                    refine m_iload C d_X7_groupAt_102 7 rfl ?_
                    refine m_aload_n C d_X7_groupAt_104 0 rfl ?_
                    refine m_get C d_X7_groupAt_105 fd_RX7_69 (v := .ref (q 22)) rfl ?_
                    refine m_iload C d_X7_groupAt_108 8 rfl ?_
                    refine m_ald C d_X7_groupAt_110 (k := 22) (by decide) rfl (by show _ < 100; omega) (by decide) ?_
                    refine m_st (st' := [.int (nI (mN (sN S 22 f) 22 k)), .int (nI (ahM (cvM S (tn r) (tn a) L 360) v k))]) rfl ?_
                    refine m_st (st' := [.int (nI (cvM S (tn r) (tn a) L 360 k)), .int (nI (ahM (cvM S (tn r) (tn a) L 360) v k))]) (by rw [show mN (sN S 22 f) 22 k = cvM S (tn r) (tn a) L 360 k from hf k (by omega)]) ?_
                    refine m_aload_n C d_X7_groupAt_111 0 rfl ?_
                    refine m_get C d_X7_groupAt_112 fd_RX7_69 (v := .ref (q 22)) rfl ?_
                    refine m_iload C d_X7_groupAt_115 6 rfl ?_
                    refine m_ald C d_X7_groupAt_117 (k := 22) (by decide) rfl (by show _ < 100; omega) (by decide) ?_
                    refine m_st (st' := [.int (nI (mN (sN S 22 f) 22 v)), .int (nI (cvM S (tn r) (tn a) L 360 k)), .int (nI (ahM (cvM S (tn r) (tn a) L 360) v k))]) rfl ?_
                    refine m_st (st' := [.int (nI (cvM S (tn r) (tn a) L 360 v)), .int (nI (cvM S (tn r) (tn a) L 360 k)), .int (nI (ahM (cvM S (tn r) (tn a) L 360) v k))]) (by rw [show mN (sN S 22 f) 22 v = cvM S (tn r) (tn a) L 360 v from hf v (by omega)]) ?_
                    refine mn_icmp_gt C d_X7_groupAt_118 (tgt := 145) rfl (by have := cvM_le S (tn r) (tn a) L 360 k; omega) (by have := cvM_le S (tn r) (tn a) L 360 v; omega) (fun c_118 => ?_) (fun c_118 => ?_)
                    · skip
                      refine m_iconst C d_X7_groupAt_145 (v := (nI 1)) rfl ?_
                      refine m_goto C d_X7_groupAt_146 (tgt := 150) rfl ?_
                      refine m_st (st' := [.int (nI (if cvM S (tn r) (tn a) L 360 v < cvM S (tn r) (tn a) L 360 k ∨ cvM S (tn r) (tn a) L 360 k = cvM S (tn r) (tn a) L 360 v ∧ k < v then 1 else 0)), .int (nI (ahM (cvM S (tn r) (tn a) L 360) v k))]) (by rw [if_pos (Or.inl c_118)]) ?_
                      exact join_150  
                    · skip
                      refine m_aload_n C d_X7_groupAt_121 0 rfl ?_
                      refine m_get C d_X7_groupAt_122 fd_RX7_69 (v := .ref (q 22)) rfl ?_
                      refine m_iload C d_X7_groupAt_125 8 rfl ?_
                      refine m_ald C d_X7_groupAt_127 (k := 22) (by decide) rfl (by show _ < 100; omega) (by decide) ?_
                      refine m_st (st' := [.int (nI (mN (sN S 22 f) 22 k)), .int (nI (ahM (cvM S (tn r) (tn a) L 360) v k))]) rfl ?_
                      refine m_st (st' := [.int (nI (cvM S (tn r) (tn a) L 360 k)), .int (nI (ahM (cvM S (tn r) (tn a) L 360) v k))]) (by rw [show mN (sN S 22 f) 22 k = cvM S (tn r) (tn a) L 360 k from hf k (by omega)]) ?_
                      refine m_aload_n C d_X7_groupAt_128 0 rfl ?_
                      refine m_get C d_X7_groupAt_129 fd_RX7_69 (v := .ref (q 22)) rfl ?_
                      refine m_iload C d_X7_groupAt_132 6 rfl ?_
                      refine m_ald C d_X7_groupAt_134 (k := 22) (by decide) rfl (by show _ < 100; omega) (by decide) ?_
                      refine m_st (st' := [.int (nI (mN (sN S 22 f) 22 v)), .int (nI (cvM S (tn r) (tn a) L 360 k)), .int (nI (ahM (cvM S (tn r) (tn a) L 360) v k))]) rfl ?_
                      refine m_st (st' := [.int (nI (cvM S (tn r) (tn a) L 360 v)), .int (nI (cvM S (tn r) (tn a) L 360 k)), .int (nI (ahM (cvM S (tn r) (tn a) L 360) v k))]) (by rw [show mN (sN S 22 f) 22 v = cvM S (tn r) (tn a) L 360 v from hf v (by omega)]) ?_
                      refine mn_icmp_ne C d_X7_groupAt_135 (tgt := 149) rfl (by have := cvM_le S (tn r) (tn a) L 360 k; omega) (by have := cvM_le S (tn r) (tn a) L 360 v; omega) (fun c_135 => ?_) (fun c_135 => ?_)
                      · skip
                        refine m_iconst C d_X7_groupAt_149 (v := (nI 0)) rfl ?_
                        refine m_st (st' := [.int (nI (if cvM S (tn r) (tn a) L 360 v < cvM S (tn r) (tn a) L 360 k ∨ cvM S (tn r) (tn a) L 360 k = cvM S (tn r) (tn a) L 360 v ∧ k < v then 1 else 0)), .int (nI (ahM (cvM S (tn r) (tn a) L 360) v k))]) (by rw [if_neg (by omega)]) ?_
                        exact join_150  
                      · skip
                        refine m_iload C d_X7_groupAt_138 8 rfl ?_
                        refine m_iload C d_X7_groupAt_140 6 rfl ?_
                        refine mn_icmp_ge C d_X7_groupAt_142 (tgt := 149) rfl (by omega) (by omega) (fun c_142 => ?_) (fun c_142 => ?_)
                        · skip
                          refine m_iconst C d_X7_groupAt_149 (v := (nI 0)) rfl ?_
                          refine m_st (st' := [.int (nI (if cvM S (tn r) (tn a) L 360 v < cvM S (tn r) (tn a) L 360 k ∨ cvM S (tn r) (tn a) L 360 k = cvM S (tn r) (tn a) L 360 v ∧ k < v then 1 else 0)), .int (nI (ahM (cvM S (tn r) (tn a) L 360) v k))]) (by rw [if_neg (by omega)]) ?_
                          exact join_150  
                        · skip
                          refine m_iconst C d_X7_groupAt_145 (v := (nI 1)) rfl ?_
                          refine m_goto C d_X7_groupAt_146 (tgt := 150) rfl ?_
                          refine m_st (st' := [.int (nI (if cvM S (tn r) (tn a) L 360 v < cvM S (tn r) (tn a) L 360 k ∨ cvM S (tn r) (tn a) L 360 k = cvM S (tn r) (tn a) L 360 v ∧ k < v then 1 else 0)), .int (nI (ahM (cvM S (tn r) (tn a) L 360) v k))]) (by rw [if_pos (Or.inr ⟨c_135, c_142⟩)]) ?_
                          exact join_150  
              refine m_lv (lv' := [(0, .ref (q 0)), (1, .int (nI (tn r))), (2, .int (nI (tn a))), (3, .int (bI L)), (4, .int (nI (tn g))), (7, .int (nI (fdG (cvM S (tn r) (tn a) L 360) (tn g) v))), (8, .int (nI v)), (9, .int (nI 0)), (10, .int (nI 0))]) [2, 3, 4, 5, 6, 7, 8, 1, 0] rfl ?_
              refine m_lve (lv' := [(0, .ref (q 0)), (1, .int (nI (tn r))), (2, .int (nI (tn a))), (3, .int (bI L)), (4, .int (nI (tn g))), (7, .int (nI (fdG (cvM S (tn r) (tn a) L 360) (tn g) v))), (8, .int (nI v)), (9, .int (nI (ahM (cvM S (tn r) (tn a) L 360) v 0))), (10, .int (nI 0))]) (rfl) ?_
              exact loop_95 _ 0 (by omega) (Nat.lt_succ_self _)
        refine m_lv (lv' := [(0, .ref (q 0)), (1, .int (nI (tn r))), (2, .int (nI (tn a))), (3, .int (bI L)), (4, .int (nI (tn g))), (7, .int (nI 0)), (8, .int (nI 0))]) [2, 3, 4, 5, 6, 1, 0] rfl ?_
        refine m_lve (lv' := [(0, .ref (q 0)), (1, .int (nI (tn r))), (2, .int (nI (tn a))), (3, .int (bI L)), (4, .int (nI (tn g))), (7, .int (nI (fdG (cvM S (tn r) (tn a) L 360) (tn g) 0))), (8, .int (nI 0))]) (rfl) ?_
        exact loop_82 _ 0 (by omega) (Nat.lt_succ_self _)
      · skip
        have c1 := of_decide_eq_false c_71
        refine m_iconst C d_X7_groupAt_74 (v := (nI 0)) rfl ?_
        exact m_iret C A TY d_X7_groupAt_75 rfl (⟨by rw [rGA, if_neg c1], f, rfl⟩)
    refine m_aload_n C d_X7_groupAt_26 1 rfl ?_
    refine m_iload C d_X7_groupAt_27 6 rfl ?_
    refine mb_if_ne C d_X7_groupAt_29 (tgt := 36) rfl (fun c_29 => ?_) (fun c_29 => ?_)
    · skip
      refine m_iload C d_X7_groupAt_36 0 rfl ?_
      refine mb_if_ne C d_X7_groupAt_38 (tgt := 45) rfl (fun c_38 => ?_) (fun c_38 => ?_)
      · skip
        rw [Bool.and_eq_true] at c_38
        have d2 := c_38.2
        obtain ⟨e1, e2, e3⟩ := mIsR_of c_38.1
        obtain ⟨e4, -, e5⟩ := inR_of d2 (by decide) (by decide)
        refine m_lve (lv' := [(6, .int (bI (mIsR S r && inR a 0 2))), (0, .ref (q 0)), (1, .int (nI (tn r))), (2, .int (nI (tn a))), (3, .int (bI L)), (4, .int g), (5, .int (bI (mIsR S r)))]) (by rw [← e1, ← e4]) ?_
        refine m_iload C d_X7_groupAt_45 5 rfl ?_
        refine m_iconst C d_X7_groupAt_47 (v := (nI 0)) rfl ?_
        refine m_aload_n C d_X7_groupAt_48 1 rfl ?_
        refine m_iload_n C d_X7_groupAt_49 2 rfl ?_
        refine m_iload_n C d_X7_groupAt_50 3 rfl ?_
        refine m_iload_n C d_X7_groupAt_51 4 rfl ?_
        refine m_callV C d_X7_groupAt_52 ok_RX7_159 (m_countsValues S (tn r) (tn a) L I e2 e3 (by omega)) rfl (rest := [.int (nI 0), .int g, .ref (q 0)]) rfl rfl (Nat.le_of_ble_eq_true rfl) ⟨⟨by decide, by decide⟩, by decide, by decide⟩ (fun v9 T9 e9 => ?_)
        obtain ⟨rfl, e9⟩ := e9
        refine m_eq e9 ?_
        show VM G x q h0 (sN S 22 (cvR S (tn r) (tn a) L 360)) 55 [(6, .int (bI (mIsR S r && inR a 0 2))), (0, .ref (q 0)), (1, .int (nI (tn r))), (2, .int (nI (tn a))), (3, .int (bI L)), (4, .int g), (5, .int (bI (mIsR S r)))] [.int (nI (ndM S (tn r) (tn a) L 360)), .int (nI 0), .int g, .ref (q 0)]
        refine m_iconst C d_X7_groupAt_55 (v := (nI 1)) rfl ?_
        refine m_isub C d_X7_groupAt_56 ?_
        refine m_callS C d_X7_groupAt_57 ok_RX7_76 (s_isIn g ((nI 0)) (((nI (ndM S (tn r) (tn a) L 360)) - (nI 1)))) (rest := [.ref (q 0)]) rfl rfl (Nat.le_of_ble_eq_true rfl) ⟨⟨by decide, by decide⟩, by decide, by decide⟩ ?_
        show VM G x q h0 (sN S 22 (cvR S (tn r) (tn a) L 360)) 60 [(6, .int (bI (mIsR S r && inR a 0 2))), (0, .ref (q 0)), (1, .int (nI (tn r))), (2, .int (nI (tn a))), (3, .int (bI L)), (4, .int g), (5, .int (bI (mIsR S r)))] [.int (bI (inI g (nI 0) ((nI (ndM S (tn r) (tn a) L 360)) - (nI 1)))), .ref (q 0)]
        refine mb_if_eq C d_X7_groupAt_60 (tgt := 67) rfl (fun c_60 => ?_) (fun c_60 => ?_)
        · skip
          refine m_iconst C d_X7_groupAt_67 (v := (nI 1)) rfl ?_
          refine m_lv (lv' := [(0, .ref (q 0)), (1, .int (nI (tn r))), (2, .int (nI (tn a))), (3, .int (bI L)), (4, .int g)]) [1, 2, 3, 4, 5] rfl ?_
          refine m_lve (lv' := [(0, .ref (q 0)), (1, .int r), (2, .int a), (3, .int (bI L)), (4, .int g)]) (by rw [← e1, ← e4]) ?_
          refine m_st (st' := [.int (nI (cGA S r a L g)), .ref (q 0)]) (by rw [cGA, if_pos c_29, if_pos d2, if_neg (by rw [c_60]; decide)]) ?_
          exact join_68 (cvR S (tn r) (tn a) L 360) (fun _ z hz => by rw [cvR, if_pos hz])
        · skip
          refine m_iconst C d_X7_groupAt_63 (v := (nI 0)) rfl ?_
          refine m_goto C d_X7_groupAt_64 (tgt := 68) rfl ?_
          refine m_lv (lv' := [(0, .ref (q 0)), (1, .int (nI (tn r))), (2, .int (nI (tn a))), (3, .int (bI L)), (4, .int g)]) [1, 2, 3, 4, 5] rfl ?_
          refine m_lve (lv' := [(0, .ref (q 0)), (1, .int r), (2, .int a), (3, .int (bI L)), (4, .int g)]) (by rw [← e1, ← e4]) ?_
          refine m_st (st' := [.int (nI (cGA S r a L g)), .ref (q 0)]) (by rw [cGA, if_pos c_29, if_pos d2, if_pos c_60]) ?_
          exact join_68 (cvR S (tn r) (tn a) L 360) (fun _ z hz => by rw [cvR, if_pos hz])
      · skip
        refine m_iconst C d_X7_groupAt_41 (v := (nI 2)) rfl ?_
        refine m_goto C d_X7_groupAt_42 (tgt := 68) rfl ?_
        refine m_eq (S' := sN S 22 (fun z => mN S 22 z)) (sN_init (fun _ => rfl)) ?_
        refine m_lv (lv' := [(0, .ref (q 0)), (1, .int r), (2, .int a), (3, .int (bI L)), (4, .int g)]) [1, 2, 3, 4, 5] rfl ?_
        refine m_st (st' := [.int (nI (cGA S r a L g)), .ref (q 0)]) (by rw [cGA, if_pos c_29, if_neg (fun y => by rw [c_29, y] at c_38; cases c_38)]) ?_
        exact join_68 (fun z => mN S 22 z) (fun z => by rw [cGA, if_pos c_29, if_neg (fun y => by rw [c_29, y] at c_38; cases c_38)] at z; cases z)
    · skip
      refine m_iconst C d_X7_groupAt_32 (v := (nI 1)) rfl ?_
      refine m_goto C d_X7_groupAt_33 (tgt := 68) rfl ?_
      refine m_eq (S' := sN S 22 (fun z => mN S 22 z)) (sN_init (fun _ => rfl)) ?_
      refine m_lv (lv' := [(0, .ref (q 0)), (1, .int r), (2, .int a), (3, .int (bI L)), (4, .int g)]) [1, 2, 3, 4, 5] rfl ?_
      refine m_st (st' := [.int (nI (cGA S r a L g)), .ref (q 0)]) (by rw [cGA, if_neg (by rw [c_29]; decide)]) ?_
      exact join_68 (fun z => mN S 22 z) (fun z => by rw [cGA, if_neg (by rw [c_29]; decide)] at z; cases z)
  refine m_iload C d_X7_groupAt_7 0 rfl ?_
  refine mb_if_eq C d_X7_groupAt_9 (tgt := 23) rfl (fun c_9 => ?_) (fun c_9 => ?_)
  · skip
    refine m_iconst C d_X7_groupAt_23 (v := (bI false)) rfl ?_
    refine m_lv (lv' := [(0, .ref (q 0)), (1, .int r), (2, .int a), (3, .int (bI L)), (4, .int g), (5, .int (bI (mIsR S r)))]) [1, 2, 3, 4, 5, 0] rfl ?_
    refine m_st (st' := [.int (bI (mIsR S r && inR a 0 2))]) (by rw [c_9]; rfl) ?_
    exact join_24  
  · skip
    refine m_iload_n C d_X7_groupAt_12 3 rfl ?_
    refine m_callS C d_X7_groupAt_13 ok_RX7_91 (s_isAttribute a) (rest := []) rfl rfl (Nat.le_of_ble_eq_true rfl) ⟨⟨by decide, by decide⟩, by decide, by decide⟩ ?_
    show VM G x q h0 S 16 [(5, .int (bI (mIsR S r))), (0, .ref (q 0)), (1, .int r), (2, .int a), (3, .int (bI L)), (4, .int g)] [.int (bI (inR a 0 2))]
    refine mb_if_eq C d_X7_groupAt_16 (tgt := 23) rfl (fun c_16 => ?_) (fun c_16 => ?_)
    · skip
      refine m_iconst C d_X7_groupAt_23 (v := (bI false)) rfl ?_
      refine m_lv (lv' := [(0, .ref (q 0)), (1, .int r), (2, .int a), (3, .int (bI L)), (4, .int g), (5, .int (bI (mIsR S r)))]) [1, 2, 3, 4, 5, 0] rfl ?_
      refine m_st (st' := [.int (bI (mIsR S r && inR a 0 2))]) (by rw [c_9, c_16]; rfl) ?_
      exact join_24  
    · skip
      refine m_iconst C d_X7_groupAt_19 (v := (bI true)) rfl ?_
      refine m_goto C d_X7_groupAt_20 (tgt := 24) rfl ?_
      refine m_lv (lv' := [(0, .ref (q 0)), (1, .int r), (2, .int a), (3, .int (bI L)), (4, .int g), (5, .int (bI (mIsR S r)))]) [1, 2, 3, 4, 5, 0] rfl ?_
      refine m_st (st' := [.int (bI (mIsR S r && inR a 0 2))]) (by rw [c_9, c_16]; rfl) ?_
      exact join_24  
