theorem tw_863 : (Jvm.Cond.methodLink "CorpuslineModel" (130 : Nat) ({ cls := "CorpuslineModel", name := "endOf", desc := "(III)I" } : Jvm.MethodName)) ∈ TB := tb_of 863 (by decide +kernel) rfl
theorem tw_865 : (Jvm.Cond.instanceMethod ({ cls := "CorpuslineModel", name := "endOf", desc := "(III)I" } : Jvm.MethodName)) ∈ TB := tb_of 865 (by decide +kernel) rfl
theorem tw_866 : (Jvm.Cond.code ({ cls := "CorpuslineModel", name := "endOf", desc := "(III)I" } : Jvm.MethodName) prog_9_method_34_code (5 : Nat) (Option.some Jvm.ClassFile.FieldType.int)) ∈ TB := tb_of 866 (by decide +kernel) rfl
theorem tw_867 : (Jvm.Cond.methodLink "CorpuslineModel" (133 : Nat) ({ cls := "CorpuslineModel", name := "goes", desc := "(IIIII)I" } : Jvm.MethodName)) ∈ TB := tb_of 867 (by decide +kernel) rfl
theorem tw_869 : (Jvm.Cond.instanceMethod ({ cls := "CorpuslineModel", name := "goes", desc := "(IIIII)I" } : Jvm.MethodName)) ∈ TB := tb_of 869 (by decide +kernel) rfl
theorem tw_870 : (Jvm.Cond.code ({ cls := "CorpuslineModel", name := "goes", desc := "(IIIII)I" } : Jvm.MethodName) prog_9_method_33_code (10 : Nat) (Option.some Jvm.ClassFile.FieldType.int)) ∈ TB := tb_of 870 (by decide +kernel) rfl
theorem ts_29 : Cond.selects "CorpuslineModel" ({ cls := "CorpuslineModel", name := "endOf", desc := "(III)I" } : MethodName) ({ cls := "CorpuslineModel", name := "endOf", desc := "(III)I" } : MethodName) ∈ TB := tb_sel 29 (by decide +kernel) rfl
theorem ts_30 : Cond.selects "CorpuslineModel" ({ cls := "CorpuslineModel", name := "goes", desc := "(IIIII)I" } : MethodName) ({ cls := "CorpuslineModel", name := "goes", desc := "(IIIII)I" } : MethodName) ∈ TB := tb_sel 30 (by decide +kernel) rfl
theorem ok_RX7_130 : okV RX7 130 yX7_endOf cX7_endOf 5 (Option.some Jvm.ClassFile.FieldType.int) 3 := ⟨tw_863, tw_865, ts_29, tw_5, tw_866, ⟨by decide, by decide, by decide +kernel⟩⟩
theorem ok_RX7_133 : okV RX7 133 yX7_goes cX7_goes 10 (Option.some Jvm.ClassFile.FieldType.int) 5 := ⟨tw_867, tw_869, ts_30, tw_5, tw_870, ⟨by decide, by decide, by decide +kernel⟩⟩
def dl_X7_longest : List (Nat × Instr × Nat) := [(0, .aload_n 0, 1), (1, .iload_n 2, 1), (2, .iload_n 3, 1), (3, .iload 4, 2), (5, .invokevirtual 130, 3), (8, .istore 6, 2), (10, .iconst 0, 1), (11, .istore 7, 2), (13, .iconst 1, 1), (14, .istore 8, 2), (16, .iload 8, 2), (18, .iconst 1, 1), (19, .aload_n 0, 1), (20, .getfield 33, 3), (23, .iload_n 1, 1), (24, .iaload, 1), (25, .ishl, 1), (26, .if_icmp .ge 83, 3), (29, .aload_n 0, 1), (30, .getfield 39, 3), (33, .sipush 256, 3), (36, .iload_n 1, 1), (37, .imul, 1), (38, .iload 8, 2), (40, .iadd, 1), (41, .baload, 1), (42, .ifCond .eq 17, 3), (45, .aload_n 0, 1), (46, .iload_n 1, 1), (47, .iload 8, 2), (49, .iload_n 2, 1), (50, .iload_n 3, 1), (51, .iload 6, 2), (53, .invokevirtual 133, 3), (56, .goto 4, 3), (59, .iconst (-1), 1), (60, .istore 9, 2), (62, .iload 9, 2), (64, .ifCond .le 35, 3), (67, .iload 7, 2), (69, .ifCond .eq 25, 3), (72, .iload 5, 2), (74, .ifCond .eq 13, 3), (77, .iload 9, 2), (79, .iload 7, 2), (81, .if_icmp .le 18, 3), (84, .goto 10, 3), (87, .iload 9, 2), (89, .iload 7, 2), (91, .if_icmp .ge 8, 3), (94, .iload 9, 2), (96, .goto 5, 3), (99, .iload 7, 2), (101, .istore 7, 2), (103, .iinc 8 1, 3), (106, .goto (-90), 3), (109, .iload 7, 2), (111, .ireturn, 1)]
theorem dc_X7_longest : dnL cX7_longest dl_X7_longest = true := by decide +kernel
theorem d_X7_longest_0 : dn cX7_longest 0 (.aload_n 0) 1 1 := dnAt dc_X7_longest 0 rfl rfl
theorem d_X7_longest_1 : dn cX7_longest 1 (.iload_n 2) 1 2 := dnAt dc_X7_longest 1 rfl rfl
theorem d_X7_longest_2 : dn cX7_longest 2 (.iload_n 3) 1 3 := dnAt dc_X7_longest 2 rfl rfl
theorem d_X7_longest_3 : dn cX7_longest 3 (.iload 4) 2 5 := dnAt dc_X7_longest 3 rfl rfl
theorem d_X7_longest_5 : dn cX7_longest 5 (.invokevirtual 130) 3 8 := dnAt dc_X7_longest 4 rfl rfl
theorem d_X7_longest_8 : dn cX7_longest 8 (.istore 6) 2 10 := dnAt dc_X7_longest 5 rfl rfl
theorem d_X7_longest_10 : dn cX7_longest 10 (.iconst 0) 1 11 := dnAt dc_X7_longest 6 rfl rfl
theorem d_X7_longest_11 : dn cX7_longest 11 (.istore 7) 2 13 := dnAt dc_X7_longest 7 rfl rfl
theorem d_X7_longest_13 : dn cX7_longest 13 (.iconst 1) 1 14 := dnAt dc_X7_longest 8 rfl rfl
theorem d_X7_longest_14 : dn cX7_longest 14 (.istore 8) 2 16 := dnAt dc_X7_longest 9 rfl rfl
theorem d_X7_longest_16 : dn cX7_longest 16 (.iload 8) 2 18 := dnAt dc_X7_longest 10 rfl rfl
theorem d_X7_longest_18 : dn cX7_longest 18 (.iconst 1) 1 19 := dnAt dc_X7_longest 11 rfl rfl
theorem d_X7_longest_19 : dn cX7_longest 19 (.aload_n 0) 1 20 := dnAt dc_X7_longest 12 rfl rfl
theorem d_X7_longest_20 : dn cX7_longest 20 (.getfield 33) 3 23 := dnAt dc_X7_longest 13 rfl rfl
theorem d_X7_longest_23 : dn cX7_longest 23 (.iload_n 1) 1 24 := dnAt dc_X7_longest 14 rfl rfl
theorem d_X7_longest_24 : dn cX7_longest 24 (.iaload) 1 25 := dnAt dc_X7_longest 15 rfl rfl
theorem d_X7_longest_25 : dn cX7_longest 25 (.ishl) 1 26 := dnAt dc_X7_longest 16 rfl rfl
theorem d_X7_longest_26 : dn cX7_longest 26 (.if_icmp .ge 83) 3 29 := dnAt dc_X7_longest 17 rfl rfl
theorem d_X7_longest_29 : dn cX7_longest 29 (.aload_n 0) 1 30 := dnAt dc_X7_longest 18 rfl rfl
theorem d_X7_longest_30 : dn cX7_longest 30 (.getfield 39) 3 33 := dnAt dc_X7_longest 19 rfl rfl
theorem d_X7_longest_33 : dn cX7_longest 33 (.sipush 256) 3 36 := dnAt dc_X7_longest 20 rfl rfl
theorem d_X7_longest_36 : dn cX7_longest 36 (.iload_n 1) 1 37 := dnAt dc_X7_longest 21 rfl rfl
theorem d_X7_longest_37 : dn cX7_longest 37 (.imul) 1 38 := dnAt dc_X7_longest 22 rfl rfl
theorem d_X7_longest_38 : dn cX7_longest 38 (.iload 8) 2 40 := dnAt dc_X7_longest 23 rfl rfl
theorem d_X7_longest_40 : dn cX7_longest 40 (.iadd) 1 41 := dnAt dc_X7_longest 24 rfl rfl
theorem d_X7_longest_41 : dn cX7_longest 41 (.baload) 1 42 := dnAt dc_X7_longest 25 rfl rfl
theorem d_X7_longest_42 : dn cX7_longest 42 (.ifCond .eq 17) 3 45 := dnAt dc_X7_longest 26 rfl rfl
theorem d_X7_longest_45 : dn cX7_longest 45 (.aload_n 0) 1 46 := dnAt dc_X7_longest 27 rfl rfl
theorem d_X7_longest_46 : dn cX7_longest 46 (.iload_n 1) 1 47 := dnAt dc_X7_longest 28 rfl rfl
theorem d_X7_longest_47 : dn cX7_longest 47 (.iload 8) 2 49 := dnAt dc_X7_longest 29 rfl rfl
theorem d_X7_longest_49 : dn cX7_longest 49 (.iload_n 2) 1 50 := dnAt dc_X7_longest 30 rfl rfl
theorem d_X7_longest_50 : dn cX7_longest 50 (.iload_n 3) 1 51 := dnAt dc_X7_longest 31 rfl rfl
theorem d_X7_longest_51 : dn cX7_longest 51 (.iload 6) 2 53 := dnAt dc_X7_longest 32 rfl rfl
theorem d_X7_longest_53 : dn cX7_longest 53 (.invokevirtual 133) 3 56 := dnAt dc_X7_longest 33 rfl rfl
theorem d_X7_longest_56 : dn cX7_longest 56 (.goto 4) 3 59 := dnAt dc_X7_longest 34 rfl rfl
theorem d_X7_longest_59 : dn cX7_longest 59 (.iconst (-1)) 1 60 := dnAt dc_X7_longest 35 rfl rfl
theorem d_X7_longest_60 : dn cX7_longest 60 (.istore 9) 2 62 := dnAt dc_X7_longest 36 rfl rfl
theorem d_X7_longest_62 : dn cX7_longest 62 (.iload 9) 2 64 := dnAt dc_X7_longest 37 rfl rfl
theorem d_X7_longest_64 : dn cX7_longest 64 (.ifCond .le 35) 3 67 := dnAt dc_X7_longest 38 rfl rfl
theorem d_X7_longest_67 : dn cX7_longest 67 (.iload 7) 2 69 := dnAt dc_X7_longest 39 rfl rfl
theorem d_X7_longest_69 : dn cX7_longest 69 (.ifCond .eq 25) 3 72 := dnAt dc_X7_longest 40 rfl rfl
theorem d_X7_longest_72 : dn cX7_longest 72 (.iload 5) 2 74 := dnAt dc_X7_longest 41 rfl rfl
theorem d_X7_longest_74 : dn cX7_longest 74 (.ifCond .eq 13) 3 77 := dnAt dc_X7_longest 42 rfl rfl
theorem d_X7_longest_77 : dn cX7_longest 77 (.iload 9) 2 79 := dnAt dc_X7_longest 43 rfl rfl
theorem d_X7_longest_79 : dn cX7_longest 79 (.iload 7) 2 81 := dnAt dc_X7_longest 44 rfl rfl
theorem d_X7_longest_81 : dn cX7_longest 81 (.if_icmp .le 18) 3 84 := dnAt dc_X7_longest 45 rfl rfl
theorem d_X7_longest_84 : dn cX7_longest 84 (.goto 10) 3 87 := dnAt dc_X7_longest 46 rfl rfl
theorem d_X7_longest_87 : dn cX7_longest 87 (.iload 9) 2 89 := dnAt dc_X7_longest 47 rfl rfl
theorem d_X7_longest_89 : dn cX7_longest 89 (.iload 7) 2 91 := dnAt dc_X7_longest 48 rfl rfl
theorem d_X7_longest_91 : dn cX7_longest 91 (.if_icmp .ge 8) 3 94 := dnAt dc_X7_longest 49 rfl rfl
theorem d_X7_longest_94 : dn cX7_longest 94 (.iload 9) 2 96 := dnAt dc_X7_longest 50 rfl rfl
theorem d_X7_longest_96 : dn cX7_longest 96 (.goto 5) 3 99 := dnAt dc_X7_longest 51 rfl rfl
theorem d_X7_longest_99 : dn cX7_longest 99 (.iload 7) 2 101 := dnAt dc_X7_longest 52 rfl rfl
theorem d_X7_longest_101 : dn cX7_longest 101 (.istore 7) 2 103 := dnAt dc_X7_longest 53 rfl rfl
theorem d_X7_longest_103 : dn cX7_longest 103 (.iinc 8 1) 3 106 := dnAt dc_X7_longest 54 rfl rfl
theorem d_X7_longest_106 : dn cX7_longest 106 (.goto (-90)) 3 109 := dnAt dc_X7_longest 55 rfl rfl
theorem d_X7_longest_109 : dn cX7_longest 109 (.iload 7) 2 111 := dnAt dc_X7_longest 56 rfl rfl
theorem d_X7_longest_111 : dn cX7_longest 111 (.ireturn) 1 112 := dnAt dc_X7_longest 57 rfl rfl
set_option maxHeartbeats 4000000 in
set_option maxRecDepth 100000 in
theorem m_longest (S : mS) (f : Nat → Int32) (pat s p bd : Nat) (L : Bool) (I : mCore S) (ht : pat < 21) (hs : s < 2) (hp : p < mN S 1 s) (hb : bd < 2147483648) : mC yX7_longest cX7_longest 10 (Option.some Jvm.ClassFile.FieldType.int) { frames := 3, cells := 0, slots := 0, locals := 80 } [.int (nI pat), .int (nI s), .int (nI p), .int (nI bd), .int (bI L)] (sI S 19 f) (fun v9 T9 => v9 = some (.int (nI (mLong S pat s p bd L))) ∧ ∃ f9, T9 = sI S 19 f9) := by
  refine mC.of (by decide) (Nat.le_of_ble_eq_true rfl) ?_
  intro G x q h0 C A TY
  show VM G x q h0 (sI S 19 f) 0 [(0, .ref (q 0)), (1, .int (nI pat)), (2, .int (nI s)), (3, .int (nI p)), (4, .int (nI bd)), (5, .int (bI L))] []
  have hn8 := I.2.2.2.2.2.1 pat ht
  have i1 := I.1 s hs
  have i3 := pow_256 hn8
  have he1 : p + 1 ≤ eOf S s p bd := eGo_ge 41 (p + 1)
  have he2 : eOf S s p bd ≤ mN S 1 s := eGo_le 41 (p + 1) (by omega)
  refine m_aload_n C d_X7_longest_0 0 rfl ?_
  refine m_iload_n C d_X7_longest_1 2 rfl ?_
  refine m_iload_n C d_X7_longest_2 3 rfl ?_
  refine m_iload C d_X7_longest_3 4 rfl ?_
  refine m_callV C d_X7_longest_5 ok_RX7_130 (m_endOf (sI S 19 f) s p bd (I) (by omega) (hp) (by omega)) rfl (rest := []) rfl rfl (Nat.le_of_ble_eq_true rfl) ⟨⟨by decide, by decide⟩, by decide, by decide⟩ (fun v9 T9 e9 => ?_)
  obtain ⟨rfl, e9⟩ := e9
  refine m_eq e9 ?_
  show VM G x q h0 (sI S 19 f) 8 [(0, .ref (q 0)), (1, .int (nI pat)), (2, .int (nI s)), (3, .int (nI p)), (4, .int (nI bd)), (5, .int (bI L))] [.int (nI (eOf S s p bd))]
  refine m_istore C d_X7_longest_8 (lv' := [(6, .int (nI (eOf S s p bd))), (0, .ref (q 0)), (1, .int (nI pat)), (2, .int (nI s)), (3, .int (nI p)), (4, .int (nI bd)), (5, .int (bI L))]) (by decide) rfl ?_
  refine m_iconst C d_X7_longest_10 (v := (nI 0)) rfl ?_
  refine m_istore C d_X7_longest_11 (lv' := [(7, .int (nI 0)), (6, .int (nI (eOf S s p bd))), (0, .ref (q 0)), (1, .int (nI pat)), (2, .int (nI s)), (3, .int (nI p)), (4, .int (nI bd)), (5, .int (bI L))]) (by decide) rfl ?_
  refine m_iconst C d_X7_longest_13 (v := (nI 1)) rfl ?_
  refine m_istore C d_X7_longest_14 (lv' := [(8, .int (nI 1)), (7, .int (nI 0)), (6, .int (nI (eOf S s p bd))), (0, .ref (q 0)), (1, .int (nI pat)), (2, .int (nI s)), (3, .int (nI p)), (4, .int (nI bd)), (5, .int (bI L))]) (by decide) rfl ?_
  have loop_16 : ∀ (fuel : Nat) (w : Nat) (g : Nat → Int32), (1 ≤ w ∧ w ≤ 2 ^ mN S 8 pat) → (257 - w) < fuel → VM G x q h0 (sI S 19 g) 16 [(0, .ref (q 0)), (1, .int (nI pat)), (2, .int (nI s)), (3, .int (nI p)), (4, .int (nI bd)), (5, .int (bI L)), (6, .int (nI (eOf S s p bd))), (7, .int (nI (mLoW S pat s p bd L w))), (8, .int (nI w))] [] := by
    intro fuel
    induction fuel with
    | zero => intro w g hw hf9; exact absurd hf9 (Nat.not_lt_zero _)
    | succ fuel ih_16 =>
      intro w g hw hf9
      refine m_iload C d_X7_longest_16 8 rfl ?_
      refine m_iconst C d_X7_longest_18 (v := (nI 1)) rfl ?_
      refine m_aload_n C d_X7_longest_19 0 rfl ?_
      refine m_get C d_X7_longest_20 fd_RX7_33 (v := .ref (q 8)) rfl ?_
      refine m_iload_n C d_X7_longest_23 1 rfl ?_
      refine m_ald C d_X7_longest_24 (k := 8) (by decide) rfl (by show _ < 21; omega) (by decide) ?_
      refine m_st (st' := [.int (nI (mN S 8 pat)), .int (nI 1), .int (nI w)]) rfl ?_
      refine mn_ishl C d_X7_longest_25 (by omega) ?_
      refine m_st (st' := [.int (nI (2 ^ mN S 8 pat)), .int (nI w)]) (by rw [Nat.one_mul]) ?_
      refine mn_icmp_ge C d_X7_longest_26 (tgt := 109) rfl (by omega) (by omega) (fun c_26 => ?_) (fun c_26 => ?_)
      · skip
        obtain rfl : w = 2 ^ mN S 8 pat := by omega
        refine m_iload C d_X7_longest_109 7 rfl ?_
        exact m_iret C A TY d_X7_longest_111 rfl (⟨rfl, _, rfl⟩)
      · skip
        have join_60 : ∀ (g2 : Nat → Int32), VM G x q h0 (sI S 19 g2) 60 [(0, .ref (q 0)), (1, .int (nI pat)), (2, .int (nI s)), (3, .int (nI p)), (4, .int (nI bd)), (5, .int (bI L)), (6, .int (nI (eOf S s p bd))), (7, .int (nI (mLoW S pat s p bd L w))), (8, .int (nI w))] [.int (gI S pat s p (eOf S s p bd) w)] := by
          intro g2
          refine m_istore C d_X7_longest_60 (lv' := [(9, .int (gI S pat s p (eOf S s p bd) w)), (0, .ref (q 0)), (1, .int (nI pat)), (2, .int (nI s)), (3, .int (nI p)), (4, .int (nI bd)), (5, .int (bI L)), (6, .int (nI (eOf S s p bd))), (7, .int (nI (mLoW S pat s p bd L w))), (8, .int (nI w))]) (by decide) rfl ?_
          have join_101 : VM G x q h0 (sI S 19 g2) 101 [(0, .ref (q 0)), (1, .int (nI pat)), (2, .int (nI s)), (3, .int (nI p)), (4, .int (nI bd)), (5, .int (bI L)), (6, .int (nI (eOf S s p bd))), (8, .int (nI w))] [.int (nI (mLoW S pat s p bd L (w + 1)))] := by
            refine m_istore C d_X7_longest_101 (lv' := [(7, .int (nI (mLoW S pat s p bd L (w + 1)))), (0, .ref (q 0)), (1, .int (nI pat)), (2, .int (nI s)), (3, .int (nI p)), (4, .int (nI bd)), (5, .int (bI L)), (6, .int (nI (eOf S s p bd))), (8, .int (nI w))]) (by decide) rfl ?_
            refine mn_iinc C d_X7_longest_103 (lv' := [(8, .int (nI (w + 1))), (7, .int (nI (mLoW S pat s p bd L (w + 1)))), (0, .ref (q 0)), (1, .int (nI pat)), (2, .int (nI s)), (3, .int (nI p)), (4, .int (nI bd)), (5, .int (bI L)), (6, .int (nI (eOf S s p bd)))]) 8 rfl (nI_inc _ rfl) (by decide) rfl ?_
            refine m_goto C d_X7_longest_106 (tgt := 16) rfl ?_
            refine m_lv (lv' := [(0, .ref (q 0)), (1, .int (nI pat)), (2, .int (nI s)), (3, .int (nI p)), (4, .int (nI bd)), (5, .int (bI L)), (6, .int (nI (eOf S s p bd))), (7, .int (nI (mLoW S pat s p bd L (w + 1)))), (8, .int (nI (w + 1)))]) [2, 3, 4, 5, 6, 7, 8, 1, 0] rfl ?_
            exact ih_16 (w + 1) g2 (by omega) (by omega)
          refine m_iload C d_X7_longest_62 0 rfl ?_
          refine m_if_le C d_X7_longest_64 (tgt := 99) rfl (fun c_64 => ?_) (fun c_64 => ?_)
          · skip
            have hl1 := mLoW_le (S := S) (pat := pat) (s := s) (p := p) (bd := bd) (L := L) w
            refine m_iload C d_X7_longest_99 8 rfl ?_
            refine m_lv (lv' := [(0, .ref (q 0)), (1, .int (nI pat)), (2, .int (nI s)), (3, .int (nI p)), (4, .int (nI bd)), (5, .int (bI L)), (6, .int (nI (eOf S s p bd))), (8, .int (nI w))]) [1, 2, 3, 4, 5, 6, 7, 9] rfl ?_
            refine m_st (st' := [.int (nI (mLoW S pat s p bd L (w + 1)))]) (by rw [mLoW_succ, if_neg (fun z => gI_no hn8 c_64 ⟨z.2.1, z.2.2.1⟩)]) ?_
            exact join_101  
          · skip
            obtain ⟨c9, c8, c7⟩ := gI_yes hn8 c_64
            have hl1 := mLoW_le (S := S) (pat := pat) (s := s) (p := p) (bd := bd) (L := L) w
            have hl2 := goN_le (S := S) (pat := pat) (way := w) (s := s) (fr := p) (e := eOf S s p bd)
            refine m_lve (lv' := [(9, .int (nI (goN S pat w s p (eOf S s p bd)))), (0, .ref (q 0)), (1, .int (nI pat)), (2, .int (nI s)), (3, .int (nI p)), (4, .int (nI bd)), (5, .int (bI L)), (6, .int (nI (eOf S s p bd))), (7, .int (nI (mLoW S pat s p bd L w))), (8, .int (nI w))]) (by rw [c7]) ?_
            refine m_iload C d_X7_longest_67 8 rfl ?_
            refine mn_if_eq C d_X7_longest_69 (tgt := 94) rfl (by omega) (fun c_69 => ?_) (fun c_69 => ?_)
            · skip
              refine m_iload C d_X7_longest_94 0 rfl ?_
              refine m_goto C d_X7_longest_96 (tgt := 101) rfl ?_
              refine m_lv (lv' := [(0, .ref (q 0)), (1, .int (nI pat)), (2, .int (nI s)), (3, .int (nI p)), (4, .int (nI bd)), (5, .int (bI L)), (6, .int (nI (eOf S s p bd))), (8, .int (nI w))]) [1, 2, 3, 4, 5, 6, 7, 9] rfl ?_
              refine m_st (st' := [.int (nI (mLoW S pat s p bd L (w + 1)))]) (by rw [mLoW_succ, if_pos ⟨by omega, c9, c8, Or.inl c_69⟩]) ?_
              exact join_101  
            · skip
              refine m_iload C d_X7_longest_72 6 rfl ?_
              refine mb_if_eq C d_X7_longest_74 (tgt := 87) rfl (fun c_74 => ?_) (fun c_74 => ?_)
              · skip
                refine m_iload C d_X7_longest_87 0 rfl ?_
                refine m_iload C d_X7_longest_89 8 rfl ?_
                refine mn_icmp_ge C d_X7_longest_91 (tgt := 99) rfl (by omega) (by omega) (fun c_91 => ?_) (fun c_91 => ?_)
                · skip
                  refine m_iload C d_X7_longest_99 8 rfl ?_
                  refine m_lv (lv' := [(0, .ref (q 0)), (1, .int (nI pat)), (2, .int (nI s)), (3, .int (nI p)), (4, .int (nI bd)), (5, .int (bI L)), (6, .int (nI (eOf S s p bd))), (8, .int (nI w))]) [1, 2, 3, 4, 5, 6, 7, 9] rfl ?_
                  refine m_st (st' := [.int (nI (mLoW S pat s p bd L (w + 1)))]) (by rw [mLoW_succ, if_neg (fun z => z.2.2.2.elim (by omega) (fun y => by rw [if_neg (show ¬ L = true by rw [c_74]; decide)] at y; omega))]) ?_
                  exact join_101  
                · skip
                  refine m_iload C d_X7_longest_94 0 rfl ?_
                  refine m_goto C d_X7_longest_96 (tgt := 101) rfl ?_
                  refine m_lv (lv' := [(0, .ref (q 0)), (1, .int (nI pat)), (2, .int (nI s)), (3, .int (nI p)), (4, .int (nI bd)), (5, .int (bI L)), (6, .int (nI (eOf S s p bd))), (8, .int (nI w))]) [1, 2, 3, 4, 5, 6, 7, 9] rfl ?_
                  refine m_st (st' := [.int (nI (mLoW S pat s p bd L (w + 1)))]) (by rw [mLoW_succ, if_pos ⟨by omega, c9, c8, Or.inr (by rw [if_neg (show ¬ L = true by rw [c_74]; decide)]; exact c_91)⟩]) ?_
                  exact join_101  
              · skip
                refine m_iload C d_X7_longest_77 0 rfl ?_
                refine m_iload C d_X7_longest_79 8 rfl ?_
                refine mn_icmp_le C d_X7_longest_81 (tgt := 99) rfl (by omega) (by omega) (fun c_81 => ?_) (fun c_81 => ?_)
                · skip
                  refine m_iload C d_X7_longest_99 8 rfl ?_
                  refine m_lv (lv' := [(0, .ref (q 0)), (1, .int (nI pat)), (2, .int (nI s)), (3, .int (nI p)), (4, .int (nI bd)), (5, .int (bI L)), (6, .int (nI (eOf S s p bd))), (8, .int (nI w))]) [1, 2, 3, 4, 5, 6, 7, 9] rfl ?_
                  refine m_st (st' := [.int (nI (mLoW S pat s p bd L (w + 1)))]) (by rw [mLoW_succ, if_neg (fun z => z.2.2.2.elim (by omega) (fun y => by rw [if_pos c_74] at y; omega))]) ?_
                  exact join_101  
                · skip
                  refine m_goto C d_X7_longest_84 (tgt := 94) rfl ?_
                  refine m_iload C d_X7_longest_94 0 rfl ?_
                  refine m_goto C d_X7_longest_96 (tgt := 101) rfl ?_
                  refine m_lv (lv' := [(0, .ref (q 0)), (1, .int (nI pat)), (2, .int (nI s)), (3, .int (nI p)), (4, .int (nI bd)), (5, .int (bI L)), (6, .int (nI (eOf S s p bd))), (8, .int (nI w))]) [1, 2, 3, 4, 5, 6, 7, 9] rfl ?_
                  refine m_st (st' := [.int (nI (mLoW S pat s p bd L (w + 1)))]) (by rw [mLoW_succ, if_pos ⟨by omega, c9, c8, Or.inr (by rw [if_pos c_74]; exact c_81)⟩]) ?_
                  exact join_101  
        refine m_aload_n C d_X7_longest_29 0 rfl ?_
        refine m_get C d_X7_longest_30 fd_RX7_39 (v := .ref (q 10)) rfl ?_
        refine m_sipush C d_X7_longest_33 (v := (nI 256)) rfl ?_
        refine m_iload_n C d_X7_longest_36 1 rfl ?_
        refine mn_imul C d_X7_longest_37 ?_
        refine m_iload C d_X7_longest_38 8 rfl ?_
        refine mn_iadd C d_X7_longest_40 ?_
        refine m_zld C d_X7_longest_41 (k := 10) (by decide) rfl (by show _ < 5376; omega) (by decide) ?_
        refine m_st (st' := [.int (bI (mB S 10 ((256 * pat) + w)))]) rfl ?_
        refine mb_if_eq C d_X7_longest_42 (tgt := 59) rfl (fun c_42 => ?_) (fun c_42 => ?_)
        · skip
          refine m_iconst C d_X7_longest_59 (v := ((-1))) rfl ?_
          refine m_st (st' := [.int (gI S pat s p (eOf S s p bd) w)]) (by rw [gI, if_neg (by rw [c_42]; decide)]) ?_
          exact join_60 g 
        · skip
          refine m_aload_n C d_X7_longest_45 0 rfl ?_
          refine m_iload_n C d_X7_longest_46 1 rfl ?_
          refine m_iload C d_X7_longest_47 8 rfl ?_
          refine m_iload_n C d_X7_longest_49 2 rfl ?_
          refine m_iload_n C d_X7_longest_50 3 rfl ?_
          refine m_iload C d_X7_longest_51 6 rfl ?_
          refine m_callV C d_X7_longest_53 ok_RX7_133 (m_goes S g pat w s p (eOf S s p bd) I ht (by omega) hs (by omega) (by omega)) rfl (rest := []) rfl rfl (Nat.le_of_ble_eq_true rfl) ⟨⟨by decide, by decide⟩, by decide, by decide⟩ (fun v9 T9 e9 => ?_)
          obtain ⟨rfl, f9, rfl⟩ := e9
          show VM G x q h0 (sI S 19 f9) 56 [(0, .ref (q 0)), (1, .int (nI pat)), (2, .int (nI s)), (3, .int (nI p)), (4, .int (nI bd)), (5, .int (bI L)), (6, .int (nI (eOf S s p bd))), (7, .int (nI (mLoW S pat s p bd L w))), (8, .int (nI w))] [.int (goI S pat w s p (eOf S s p bd))]
          refine m_goto C d_X7_longest_56 (tgt := 60) rfl ?_
          refine m_st (st' := [.int (gI S pat s p (eOf S s p bd) w)]) (by rw [gI, if_pos c_42]) ?_
          exact join_60 f9 
  refine m_lv (lv' := [(0, .ref (q 0)), (1, .int (nI pat)), (2, .int (nI s)), (3, .int (nI p)), (4, .int (nI bd)), (5, .int (bI L)), (6, .int (nI (eOf S s p bd))), (7, .int (nI 0)), (8, .int (nI 1))]) [3, 4, 5, 6, 7, 8, 2, 1, 0] rfl ?_
  refine m_lve (lv' := [(0, .ref (q 0)), (1, .int (nI pat)), (2, .int (nI s)), (3, .int (nI p)), (4, .int (nI bd)), (5, .int (bI L)), (6, .int (nI (eOf S s p bd))), (7, .int (nI (mLoW S pat s p bd L 1))), (8, .int (nI 1))]) (rfl) ?_
  exact loop_16 _ 1 f (by omega) (Nat.lt_succ_self _)
