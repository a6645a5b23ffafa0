theorem tw_871 : (Jvm.Cond.methodLink "CorpuslineModel" (127 : Nat) ({ cls := "CorpuslineModel", name := "matches", desc := "(III)Z" } : Jvm.MethodName)) ∈ TB := tb_of 871 (by decide +kernel) rfl
theorem tw_873 : (Jvm.Cond.instanceMethod ({ cls := "CorpuslineModel", name := "matches", desc := "(III)Z" } : Jvm.MethodName)) ∈ TB := tb_of 873 (by decide +kernel) rfl
theorem tw_874 : (Jvm.Cond.code ({ cls := "CorpuslineModel", name := "matches", desc := "(III)Z" } : Jvm.MethodName) prog_9_method_32_code (9 : Nat) (Option.some Jvm.ClassFile.FieldType.boolean)) ∈ TB := tb_of 874 (by decide +kernel) rfl
theorem ts_31 : Cond.selects "CorpuslineModel" ({ cls := "CorpuslineModel", name := "matches", desc := "(III)Z" } : MethodName) ({ cls := "CorpuslineModel", name := "matches", desc := "(III)Z" } : MethodName) ∈ TB := tb_sel 31 (by decide +kernel) rfl
theorem ok_RX7_127 : okV RX7 127 yX7_matches cX7_matches 9 (Option.some Jvm.ClassFile.FieldType.boolean) 3 := ⟨tw_871, tw_873, ts_31, tw_5, tw_874, ⟨by decide, by decide, by decide +kernel⟩⟩
theorem ite_le {c : Prop} [Decidable c] {a b m : Nat} (ha : a ≤ m) (hb : b ≤ m) : (if c then a else b) ≤ m := by split <;> assumption
theorem goA_succ {S : mS} {pat way s fr e k pl : Nat} {lab : Nat → Nat} (h : goA S pat way s fr e k = some (pl, lab)) : goA S pat way s fr e (k + 1) = if way / 2 ^ k % 2 = 1 then (if pl = e ∨ tMat S (8 * pat + k) s pl lab = false then none else some (pl + 1, fun z => if mN S 13 (8 * pat + k) / 2 ^ z % 2 = 1 then pl + 1 else lab z)) else some (pl, lab) := by
  unfold goA at h ⊢
  rw [goS, h]
theorem goA_fail {S : mS} {pat way s fr e k m : Nat} (h : goA S pat way s fr e (k + 1) = none) (hk : k < m) : goA S pat way s fr e m = none := goS_fail h hk
theorem goI_none {S : mS} {pat way s fr e k : Nat} (h : goA S pat way s fr e (k + 1) = none) (hk : k < mN S 8 pat) : goI S pat way s fr e = -1 := by
  unfold goI; rw [goA_fail h hk]
theorem goI_some {S : mS} {pat way s fr e pl : Nat} {lab : Nat → Nat} (h : goA S pat way s fr e (mN S 8 pat) = some (pl, lab)) : goI S pat way s fr e = nI (pl - fr) := by
  unfold goI; rw [h]
theorem goS_le {M : Nat → Nat → (Nat → Nat) → Bool} {st : Nat → Nat} {way fr e : Nat} : ∀ {k pl : Nat} {lab : Nat → Nat}, goS M st way fr e k = some (pl, lab) → fr ≤ pl ∧ pl ≤ fr + k
  | 0, pl, lab, h => by
    rw [goS] at h
    cases h
    exact ⟨Nat.le_refl _, Nat.le_refl _⟩
  | k + 1, pl, lab, h => by
    rw [goS] at h
    split at h
    · cases h
    · rename_i pl' lab' h'
      have := goS_le h'
      split at h
      · split at h
        · cases h
        · cases h; omega
      · cases h; omega
theorem goN_le {S : mS} {pat way s fr e : Nat} : goN S pat way s fr e ≤ mN S 8 pat := by
  unfold goN
  split
  · omega
  · rename_i pl lab h
    have := goS_le h
    omega
theorem goI_pos {S : mS} {pat way s fr e : Nat} (hn : mN S 8 pat ≤ 8) (h : ¬ goI S pat way s fr e ≤ 0) : goI S pat way s fr e = nI (goN S pat way s fr e) ∧ 0 < goN S pat way s fr e := by
  have h1 := goN_le (S := S) (pat := pat) (way := way) (s := s) (fr := fr) (e := e)
  have h2 : goI S pat way s fr e = nI (goN S pat way s fr e) := by
    revert h
    unfold goI goN
    split
    · intro h; exact absurd (by decide) h
    · intro _; rfl
  refine ⟨h2, ?_⟩
  rw [h2] at h
  rcases Nat.eq_zero_or_pos (goN S pat way s fr e) with q | q
  · rw [q] at h; exact absurd (by decide) h
  · exact q
theorem goI_npos {S : mS} {pat way s fr e : Nat} (hn : mN S 8 pat ≤ 8) (h : goI S pat way s fr e ≤ 0) : goN S pat way s fr e = 0 := by
  have h1 := goN_le (S := S) (pat := pat) (way := way) (s := s) (fr := fr) (e := e)
  revert h h1
  unfold goI goN
  split
  · intro _ _; rfl
  · rename_i pl lab _
    intro h h1
    have h1' : pl - fr ≤ mN S 8 pat := h1
    have h2 := (nI_leI (a := pl - fr) (b := 0) (by omega) (by decide)).mp h
    exact Nat.le_zero.mp h2
def gI (S : mS) (pat s p e w : Nat) : Int32 := if mB S 10 (256 * pat + w) = true then goI S pat w s p e else -1
theorem mLoW_succ (S : mS) (pat s p bd : Nat) (L : Bool) (w : Nat) : mLoW S pat s p bd L (w + 1) = if w ≠ 0 ∧ mB S 10 (256 * pat + w) = true ∧ 0 < goN S pat w s p (eOf S s p bd) ∧ (mLoW S pat s p bd L w = 0 ∨ (if L = true then mLoW S pat s p bd L w < goN S pat w s p (eOf S s p bd) else goN S pat w s p (eOf S s p bd) < mLoW S pat s p bd L w)) then goN S pat w s p (eOf S s p bd) else mLoW S pat s p bd L w := rfl
theorem mLoW_le {S : mS} {pat s p bd : Nat} {L : Bool} : ∀ w, mLoW S pat s p bd L w ≤ mN S 8 pat
  | 0 => Nat.zero_le _
  | w + 1 => by
    rw [mLoW_succ]
    exact ite_le goN_le (mLoW_le w)
theorem gI_no {S : mS} {pat s p e w : Nat} (hn : mN S 8 pat ≤ 8) (h : gI S pat s p e w ≤ 0) : ¬ (mB S 10 (256 * pat + w) = true ∧ 0 < goN S pat w s p e) := by
  intro ⟨h1, h2⟩
  rw [gI, if_pos h1] at h
  have := goI_npos hn h
  omega
theorem gI_yes {S : mS} {pat s p e w : Nat} (hn : mN S 8 pat ≤ 8) (h : ¬ gI S pat s p e w ≤ 0) : mB S 10 (256 * pat + w) = true ∧ 0 < goN S pat w s p e ∧ gI S pat s p e w = nI (goN S pat w s p e) := by
  unfold gI at h ⊢
  split at h
  · rename_i c
    obtain ⟨h1, h2⟩ := goI_pos hn h
    exact ⟨c, h2, by rw [if_pos c]; exact h1⟩
  · exact absurd (by decide) h

def dl_X7_goes : List (Nat × Instr × Nat) := [(0, .iload 4, 2), (2, .istore 6, 2), (4, .iconst 0, 1), (5, .istore 7, 2), (7, .iload 7, 2), (9, .iconst 3, 1), (10, .if_icmp .ge 17, 3), (13, .aload_n 0, 1), (14, .getfield 60, 3), (17, .iload 7, 2), (19, .iconst (-1), 1), (20, .iastore, 1), (21, .iinc 7 1, 3), (24, .goto (-17), 3), (27, .iconst 0, 1), (28, .istore 7, 2), (30, .iload 7, 2), (32, .aload_n 0, 1), (33, .getfield 33, 3), (36, .iload_n 1, 1), (37, .iaload, 1), (38, .if_icmp .ge 102, 3), (41, .iload_n 2, 1), (42, .iload 7, 2), (44, .ishr, 1), (45, .iconst 1, 1), (46, .iand, 1), (47, .iconst 1, 1), (48, .if_icmp .ne 86, 3), (51, .bipush 8, 2), (53, .iload_n 1, 1), (54, .imul, 1), (55, .iload 7, 2), (57, .iadd, 1), (58, .istore 8, 2), (60, .iload 6, 2), (62, .iload 5, 2), (64, .if_icmp .eq 15, 3), (67, .aload_n 0, 1), (68, .iload 8, 2), (70, .iload_n 3, 1), (71, .iload 6, 2), (73, .invokevirtual 127, 3), (76, .ifCond .ne 5, 3), (79, .iconst (-1), 1), (80, .ireturn, 1), (81, .iconst 0, 1), (82, .istore 9, 2), (84, .iload 9, 2), (86, .iconst 3, 1), (87, .if_icmp .ge 44, 3), (90, .aload_n 0, 1), (91, .getfield 60, 3), (94, .iload 9, 2), (96, .aload_n 0, 1), (97, .getfield 48, 3), (100, .iload 8, 2), (102, .iaload, 1), (103, .iload 9, 2), (105, .ishr, 1), (106, .iconst 1, 1), (107, .iand, 1), (108, .iconst 1, 1), (109, .if_icmp .ne 8, 3), (112, .iload 6, 2), (114, .goto 10, 3), (117, .aload_n 0, 1), (118, .getfield 60, 3), (121, .iload 9, 2), (123, .iaload, 1), (124, .iastore, 1), (125, .iinc 9 1, 3), (128, .goto (-44), 3), (131, .iinc 6 1, 3), (134, .iinc 7 1, 3), (137, .goto (-107), 3), (140, .iload 6, 2), (142, .iload 4, 2), (144, .isub, 1), (145, .ireturn, 1)]
theorem dc_X7_goes : dnL cX7_goes dl_X7_goes = true := by decide +kernel
theorem d_X7_goes_0 : dn cX7_goes 0 (.iload 4) 2 2 := dnAt dc_X7_goes 0 rfl rfl
theorem d_X7_goes_2 : dn cX7_goes 2 (.istore 6) 2 4 := dnAt dc_X7_goes 1 rfl rfl
theorem d_X7_goes_4 : dn cX7_goes 4 (.iconst 0) 1 5 := dnAt dc_X7_goes 2 rfl rfl
theorem d_X7_goes_5 : dn cX7_goes 5 (.istore 7) 2 7 := dnAt dc_X7_goes 3 rfl rfl
theorem d_X7_goes_7 : dn cX7_goes 7 (.iload 7) 2 9 := dnAt dc_X7_goes 4 rfl rfl
theorem d_X7_goes_9 : dn cX7_goes 9 (.iconst 3) 1 10 := dnAt dc_X7_goes 5 rfl rfl
theorem d_X7_goes_10 : dn cX7_goes 10 (.if_icmp .ge 17) 3 13 := dnAt dc_X7_goes 6 rfl rfl
theorem d_X7_goes_13 : dn cX7_goes 13 (.aload_n 0) 1 14 := dnAt dc_X7_goes 7 rfl rfl
theorem d_X7_goes_14 : dn cX7_goes 14 (.getfield 60) 3 17 := dnAt dc_X7_goes 8 rfl rfl
theorem d_X7_goes_17 : dn cX7_goes 17 (.iload 7) 2 19 := dnAt dc_X7_goes 9 rfl rfl
theorem d_X7_goes_19 : dn cX7_goes 19 (.iconst (-1)) 1 20 := dnAt dc_X7_goes 10 rfl rfl
theorem d_X7_goes_20 : dn cX7_goes 20 (.iastore) 1 21 := dnAt dc_X7_goes 11 rfl rfl
theorem d_X7_goes_21 : dn cX7_goes 21 (.iinc 7 1) 3 24 := dnAt dc_X7_goes 12 rfl rfl
theorem d_X7_goes_24 : dn cX7_goes 24 (.goto (-17)) 3 27 := dnAt dc_X7_goes 13 rfl rfl
theorem d_X7_goes_27 : dn cX7_goes 27 (.iconst 0) 1 28 := dnAt dc_X7_goes 14 rfl rfl
theorem d_X7_goes_28 : dn cX7_goes 28 (.istore 7) 2 30 := dnAt dc_X7_goes 15 rfl rfl
theorem d_X7_goes_30 : dn cX7_goes 30 (.iload 7) 2 32 := dnAt dc_X7_goes 16 rfl rfl
theorem d_X7_goes_32 : dn cX7_goes 32 (.aload_n 0) 1 33 := dnAt dc_X7_goes 17 rfl rfl
theorem d_X7_goes_33 : dn cX7_goes 33 (.getfield 33) 3 36 := dnAt dc_X7_goes 18 rfl rfl
theorem d_X7_goes_36 : dn cX7_goes 36 (.iload_n 1) 1 37 := dnAt dc_X7_goes 19 rfl rfl
theorem d_X7_goes_37 : dn cX7_goes 37 (.iaload) 1 38 := dnAt dc_X7_goes 20 rfl rfl
theorem d_X7_goes_38 : dn cX7_goes 38 (.if_icmp .ge 102) 3 41 := dnAt dc_X7_goes 21 rfl rfl
theorem d_X7_goes_41 : dn cX7_goes 41 (.iload_n 2) 1 42 := dnAt dc_X7_goes 22 rfl rfl
theorem d_X7_goes_42 : dn cX7_goes 42 (.iload 7) 2 44 := dnAt dc_X7_goes 23 rfl rfl
theorem d_X7_goes_44 : dn cX7_goes 44 (.ishr) 1 45 := dnAt dc_X7_goes 24 rfl rfl
theorem d_X7_goes_45 : dn cX7_goes 45 (.iconst 1) 1 46 := dnAt dc_X7_goes 25 rfl rfl
theorem d_X7_goes_46 : dn cX7_goes 46 (.iand) 1 47 := dnAt dc_X7_goes 26 rfl rfl
theorem d_X7_goes_47 : dn cX7_goes 47 (.iconst 1) 1 48 := dnAt dc_X7_goes 27 rfl rfl
theorem d_X7_goes_48 : dn cX7_goes 48 (.if_icmp .ne 86) 3 51 := dnAt dc_X7_goes 28 rfl rfl
theorem d_X7_goes_51 : dn cX7_goes 51 (.bipush 8) 2 53 := dnAt dc_X7_goes 29 rfl rfl
theorem d_X7_goes_53 : dn cX7_goes 53 (.iload_n 1) 1 54 := dnAt dc_X7_goes 30 rfl rfl
theorem d_X7_goes_54 : dn cX7_goes 54 (.imul) 1 55 := dnAt dc_X7_goes 31 rfl rfl
theorem d_X7_goes_55 : dn cX7_goes 55 (.iload 7) 2 57 := dnAt dc_X7_goes 32 rfl rfl
theorem d_X7_goes_57 : dn cX7_goes 57 (.iadd) 1 58 := dnAt dc_X7_goes 33 rfl rfl
theorem d_X7_goes_58 : dn cX7_goes 58 (.istore 8) 2 60 := dnAt dc_X7_goes 34 rfl rfl
theorem d_X7_goes_60 : dn cX7_goes 60 (.iload 6) 2 62 := dnAt dc_X7_goes 35 rfl rfl
theorem d_X7_goes_62 : dn cX7_goes 62 (.iload 5) 2 64 := dnAt dc_X7_goes 36 rfl rfl
theorem d_X7_goes_64 : dn cX7_goes 64 (.if_icmp .eq 15) 3 67 := dnAt dc_X7_goes 37 rfl rfl
theorem d_X7_goes_67 : dn cX7_goes 67 (.aload_n 0) 1 68 := dnAt dc_X7_goes 38 rfl rfl
theorem d_X7_goes_68 : dn cX7_goes 68 (.iload 8) 2 70 := dnAt dc_X7_goes 39 rfl rfl
theorem d_X7_goes_70 : dn cX7_goes 70 (.iload_n 3) 1 71 := dnAt dc_X7_goes 40 rfl rfl
theorem d_X7_goes_71 : dn cX7_goes 71 (.iload 6) 2 73 := dnAt dc_X7_goes 41 rfl rfl
theorem d_X7_goes_73 : dn cX7_goes 73 (.invokevirtual 127) 3 76 := dnAt dc_X7_goes 42 rfl rfl
theorem d_X7_goes_76 : dn cX7_goes 76 (.ifCond .ne 5) 3 79 := dnAt dc_X7_goes 43 rfl rfl
theorem d_X7_goes_79 : dn cX7_goes 79 (.iconst (-1)) 1 80 := dnAt dc_X7_goes 44 rfl rfl
theorem d_X7_goes_80 : dn cX7_goes 80 (.ireturn) 1 81 := dnAt dc_X7_goes 45 rfl rfl
theorem d_X7_goes_81 : dn cX7_goes 81 (.iconst 0) 1 82 := dnAt dc_X7_goes 46 rfl rfl
theorem d_X7_goes_82 : dn cX7_goes 82 (.istore 9) 2 84 := dnAt dc_X7_goes 47 rfl rfl
theorem d_X7_goes_84 : dn cX7_goes 84 (.iload 9) 2 86 := dnAt dc_X7_goes 48 rfl rfl
theorem d_X7_goes_86 : dn cX7_goes 86 (.iconst 3) 1 87 := dnAt dc_X7_goes 49 rfl rfl
theorem d_X7_goes_87 : dn cX7_goes 87 (.if_icmp .ge 44) 3 90 := dnAt dc_X7_goes 50 rfl rfl
theorem d_X7_goes_90 : dn cX7_goes 90 (.aload_n 0) 1 91 := dnAt dc_X7_goes 51 rfl rfl
theorem d_X7_goes_91 : dn cX7_goes 91 (.getfield 60) 3 94 := dnAt dc_X7_goes 52 rfl rfl
theorem d_X7_goes_94 : dn cX7_goes 94 (.iload 9) 2 96 := dnAt dc_X7_goes 53 rfl rfl
theorem d_X7_goes_96 : dn cX7_goes 96 (.aload_n 0) 1 97 := dnAt dc_X7_goes 54 rfl rfl
theorem d_X7_goes_97 : dn cX7_goes 97 (.getfield 48) 3 100 := dnAt dc_X7_goes 55 rfl rfl
theorem d_X7_goes_100 : dn cX7_goes 100 (.iload 8) 2 102 := dnAt dc_X7_goes 56 rfl rfl
theorem d_X7_goes_102 : dn cX7_goes 102 (.iaload) 1 103 := dnAt dc_X7_goes 57 rfl rfl
theorem d_X7_goes_103 : dn cX7_goes 103 (.iload 9) 2 105 := dnAt dc_X7_goes 58 rfl rfl
theorem d_X7_goes_105 : dn cX7_goes 105 (.ishr) 1 106 := dnAt dc_X7_goes 59 rfl rfl
theorem d_X7_goes_106 : dn cX7_goes 106 (.iconst 1) 1 107 := dnAt dc_X7_goes 60 rfl rfl
theorem d_X7_goes_107 : dn cX7_goes 107 (.iand) 1 108 := dnAt dc_X7_goes 61 rfl rfl
theorem d_X7_goes_108 : dn cX7_goes 108 (.iconst 1) 1 109 := dnAt dc_X7_goes 62 rfl rfl
theorem d_X7_goes_109 : dn cX7_goes 109 (.if_icmp .ne 8) 3 112 := dnAt dc_X7_goes 63 rfl rfl
theorem d_X7_goes_112 : dn cX7_goes 112 (.iload 6) 2 114 := dnAt dc_X7_goes 64 rfl rfl
theorem d_X7_goes_114 : dn cX7_goes 114 (.goto 10) 3 117 := dnAt dc_X7_goes 65 rfl rfl
theorem d_X7_goes_117 : dn cX7_goes 117 (.aload_n 0) 1 118 := dnAt dc_X7_goes 66 rfl rfl
theorem d_X7_goes_118 : dn cX7_goes 118 (.getfield 60) 3 121 := dnAt dc_X7_goes 67 rfl rfl
theorem d_X7_goes_121 : dn cX7_goes 121 (.iload 9) 2 123 := dnAt dc_X7_goes 68 rfl rfl
theorem d_X7_goes_123 : dn cX7_goes 123 (.iaload) 1 124 := dnAt dc_X7_goes 69 rfl rfl
theorem d_X7_goes_124 : dn cX7_goes 124 (.iastore) 1 125 := dnAt dc_X7_goes 70 rfl rfl
theorem d_X7_goes_125 : dn cX7_goes 125 (.iinc 9 1) 3 128 := dnAt dc_X7_goes 71 rfl rfl
theorem d_X7_goes_128 : dn cX7_goes 128 (.goto (-44)) 3 131 := dnAt dc_X7_goes 72 rfl rfl
theorem d_X7_goes_131 : dn cX7_goes 131 (.iinc 6 1) 3 134 := dnAt dc_X7_goes 73 rfl rfl
theorem d_X7_goes_134 : dn cX7_goes 134 (.iinc 7 1) 3 137 := dnAt dc_X7_goes 74 rfl rfl
theorem d_X7_goes_137 : dn cX7_goes 137 (.goto (-107)) 3 140 := dnAt dc_X7_goes 75 rfl rfl
theorem d_X7_goes_140 : dn cX7_goes 140 (.iload 6) 2 142 := dnAt dc_X7_goes 76 rfl rfl
theorem d_X7_goes_142 : dn cX7_goes 142 (.iload 4) 2 144 := dnAt dc_X7_goes 77 rfl rfl
theorem d_X7_goes_144 : dn cX7_goes 144 (.isub) 1 145 := dnAt dc_X7_goes 78 rfl rfl
theorem d_X7_goes_145 : dn cX7_goes 145 (.ireturn) 1 146 := dnAt dc_X7_goes 79 rfl rfl
set_option maxHeartbeats 4000000 in
set_option maxRecDepth 100000 in
theorem m_goes (S : mS) (f : Nat → Int32) (pat way s fr e : Nat) (I : mCore S) (ht : pat < 21) (hw : way < 2147483648) (hs : s < 2) (hp : fr ≤ e) (he : e ≤ 40) : mC yX7_goes cX7_goes 10 (Option.some Jvm.ClassFile.FieldType.int) { frames := 2, cells := 0, slots := 0, locals := 51 } [.int (nI pat), .int (nI way), .int (nI s), .int (nI fr), .int (nI e)] (sI S 19 f) (fun v9 T9 => v9 = some (.int (goI S pat way s fr e)) ∧ ∃ f9, T9 = sI S 19 f9) := by
  refine mC.of (by decide) (Nat.le_of_ble_eq_true rfl) ?_
  intro G x q h0 C A TY
  show VM G x q h0 (sI S 19 f) 0 [(0, .ref (q 0)), (1, .int (nI pat)), (2, .int (nI way)), (3, .int (nI s)), (4, .int (nI fr)), (5, .int (nI e))] []
  have hn8 := I.2.2.2.2.2.1 pat ht
  refine m_iload C d_X7_goes_0 4 rfl ?_
  refine m_istore C d_X7_goes_2 (lv' := [(6, .int (nI fr)), (0, .ref (q 0)), (1, .int (nI pat)), (2, .int (nI way)), (3, .int (nI s)), (4, .int (nI fr)), (5, .int (nI e))]) (by decide) rfl ?_
  refine m_iconst C d_X7_goes_4 (v := (nI 0)) rfl ?_
  refine m_istore C d_X7_goes_5 (lv' := [(7, .int (nI 0)), (6, .int (nI fr)), (0, .ref (q 0)), (1, .int (nI pat)), (2, .int (nI way)), (3, .int (nI s)), (4, .int (nI fr)), (5, .int (nI e))]) (by decide) rfl ?_
  have loop_7 : ∀ (fuel : Nat) (k : Nat) (g : Nat → Int32), (k ≤ 3) → (∀ z, z < k → g z = -1) → (4 - k) < fuel → VM G x q h0 (sI S 19 g) 7 [(0, .ref (q 0)), (1, .int (nI pat)), (2, .int (nI way)), (3, .int (nI s)), (4, .int (nI fr)), (5, .int (nI e)), (6, .int (nI fr)), (7, .int (nI k))] [] := by
    intro fuel
    induction fuel with
    | zero => intro k g hk hg0 hf9; exact absurd hf9 (Nat.not_lt_zero _)
    | succ fuel ih_7 =>
      intro k g hk hg0 hf9
      refine m_iload C d_X7_goes_7 7 rfl ?_
      refine m_iconst C d_X7_goes_9 (v := (nI 3)) rfl ?_
      refine mn_icmp_ge C d_X7_goes_10 (tgt := 27) rfl (by omega) (by omega) (fun c_10 => ?_) (fun c_10 => ?_)
      · skip
        refine m_iconst C d_X7_goes_27 (v := (nI 0)) rfl ?_
        refine m_istore C d_X7_goes_28 (lv' := [(7, .int (nI 0)), (0, .ref (q 0)), (1, .int (nI pat)), (2, .int (nI way)), (3, .int (nI s)), (4, .int (nI fr)), (5, .int (nI e)), (6, .int (nI fr))]) (by decide) rfl ?_
        have loop_30 : ∀ (fuel : Nat) (k : Nat) (pl : Nat) (lab : Nat → Nat) (g : Nat → Int32), (k ≤ mN S 8 pat) → (goA S pat way s fr e k = some (pl, lab)) → (fr ≤ pl ∧ pl ≤ e) → (∀ z, z < 3 → g z = labI (lab z) ∧ lab z ≤ 40) → (9 - k) < fuel → VM G x q h0 (sI S 19 g) 30 [(0, .ref (q 0)), (1, .int (nI pat)), (2, .int (nI way)), (3, .int (nI s)), (4, .int (nI fr)), (5, .int (nI e)), (6, .int (nI pl)), (7, .int (nI k))] [] := by
          intro fuel
          induction fuel with
          | zero => intro k pl lab g hk2 hg hpl hgl hf9; exact absurd hf9 (Nat.not_lt_zero _)
          | succ fuel ih_30 =>
            intro k pl lab g hk2 hg hpl hgl hf9
            refine m_iload C d_X7_goes_30 7 rfl ?_
            refine m_aload_n C d_X7_goes_32 0 rfl ?_
            refine m_get C d_X7_goes_33 fd_RX7_33 (v := .ref (q 8)) rfl ?_
            refine m_iload_n C d_X7_goes_36 1 rfl ?_
            refine m_ald C d_X7_goes_37 (k := 8) (by decide) rfl (by show _ < 21; omega) (by decide) ?_
            refine m_st (st' := [.int (nI (mN S 8 pat)), .int (nI k)]) rfl ?_
            refine mn_icmp_ge C d_X7_goes_38 (tgt := 140) rfl (by omega) (by omega) (fun c_38 => ?_) (fun c_38 => ?_)
            · skip
              obtain rfl : k = mN S 8 pat := by omega
              refine m_iload C d_X7_goes_140 6 rfl ?_
              refine m_iload C d_X7_goes_142 4 rfl ?_
              refine mn_isub C d_X7_goes_144 (by omega) ?_
              exact m_iret C A TY d_X7_goes_145 rfl (⟨congrArg (fun z => some (Value.int z)) (goI_some hg).symm, _, rfl⟩)
            · skip
              refine m_iload_n C d_X7_goes_41 2 rfl ?_
              refine m_iload C d_X7_goes_42 7 rfl ?_
              refine mn_ishr C d_X7_goes_44 (by omega) (by omega) ?_
              refine m_iconst C d_X7_goes_45 (v := (nI 1)) rfl ?_
              refine mn_iand C d_X7_goes_46 ?_
              refine m_st (st' := [.int (nI (way / 2 ^ k % 2))]) (by rw [and1]) ?_
              refine m_iconst C d_X7_goes_47 (v := (nI 1)) rfl ?_
              refine mn_icmp_ne C d_X7_goes_48 (tgt := 134) rfl (by omega) (by omega) (fun c_48 => ?_) (fun c_48 => ?_)
              · skip
                refine mn_iinc C d_X7_goes_134 (lv' := [(7, .int (nI (k + 1))), (0, .ref (q 0)), (1, .int (nI pat)), (2, .int (nI way)), (3, .int (nI s)), (4, .int (nI fr)), (5, .int (nI e)), (6, .int (nI pl))]) 7 rfl (nI_inc _ rfl) (by decide) rfl ?_
                refine m_goto C d_X7_goes_137 (tgt := 30) rfl ?_
                refine m_lv (lv' := [(0, .ref (q 0)), (1, .int (nI pat)), (2, .int (nI way)), (3, .int (nI s)), (4, .int (nI fr)), (5, .int (nI e)), (6, .int (nI pl)), (7, .int (nI (k + 1)))]) [1, 2, 3, 4, 5, 6, 7, 0] rfl ?_
                exact ih_30 (k + 1) pl lab g (by omega) (by rw [goA_succ hg, if_neg c_48]) (by omega) (hgl) (by omega)
              · skip
                refine m_bipush C d_X7_goes_51 (v := (nI 8)) rfl ?_
                refine m_iload_n C d_X7_goes_53 1 rfl ?_
                refine mn_imul C d_X7_goes_54 ?_
                refine m_iload C d_X7_goes_55 7 rfl ?_
                refine mn_iadd C d_X7_goes_57 ?_
                refine m_istore C d_X7_goes_58 (lv' := [(8, .int (nI ((8 * pat) + k))), (0, .ref (q 0)), (1, .int (nI pat)), (2, .int (nI way)), (3, .int (nI s)), (4, .int (nI fr)), (5, .int (nI e)), (6, .int (nI pl)), (7, .int (nI k))]) (by decide) rfl ?_
                refine m_iload C d_X7_goes_60 7 rfl ?_
                refine m_iload C d_X7_goes_62 6 rfl ?_
                refine mn_icmp_eq C d_X7_goes_64 (tgt := 79) rfl (by omega) (by omega) (fun c_64 => ?_) (fun c_64 => ?_)
                · skip
                  refine m_iconst C d_X7_goes_79 (v := ((-1))) rfl ?_
                  exact m_iret C A TY d_X7_goes_80 rfl (⟨congrArg (fun z => some (Value.int z)) (goI_none (k := k) (by rw [goA_succ hg, if_pos c_48, if_pos (Or.inl c_64)]) (by omega)).symm, _, rfl⟩)
                · skip
                  refine m_aload_n C d_X7_goes_67 1 rfl ?_
                  refine m_iload C d_X7_goes_68 0 rfl ?_
                  refine m_iload_n C d_X7_goes_70 4 rfl ?_
                  refine m_iload C d_X7_goes_71 7 rfl ?_
                  refine m_callV C d_X7_goes_73 ok_RX7_127 (m_matches S g (8 * pat + k) s pl lab I (by omega) hs (by omega) hgl) rfl (rest := []) rfl rfl (Nat.le_of_ble_eq_true rfl) ⟨⟨by decide, by decide⟩, by decide, by decide⟩ (fun v9 T9 e9 => ?_)
                  obtain ⟨rfl, e9⟩ := e9
                  refine m_eq e9 ?_
                  show VM G x q h0 (sI S 19 g) 76 [(8, .int (nI ((8 * pat) + k))), (0, .ref (q 0)), (1, .int (nI pat)), (2, .int (nI way)), (3, .int (nI s)), (4, .int (nI fr)), (5, .int (nI e)), (6, .int (nI pl)), (7, .int (nI k))] [.int (bI (tMat S (8 * pat + k) s pl lab))]
                  refine mb_if_ne C d_X7_goes_76 (tgt := 81) rfl (fun c_76 => ?_) (fun c_76 => ?_)
                  · skip
                    refine m_iconst C d_X7_goes_81 (v := (nI 0)) rfl ?_
                    refine m_istore C d_X7_goes_82 (lv' := [(9, .int (nI 0)), (8, .int (nI ((8 * pat) + k))), (0, .ref (q 0)), (1, .int (nI pat)), (2, .int (nI way)), (3, .int (nI s)), (4, .int (nI fr)), (5, .int (nI e)), (6, .int (nI pl)), (7, .int (nI k))]) (by decide) rfl ?_
                    have loop_84 : ∀ (fuel : Nat) (z : Nat) (g2 : Nat → Int32), (z ≤ 3) → (∀ y, y < z → g2 y = labI ((fun z => if mN S 13 (8 * pat + k) / 2 ^ z % 2 = 1 then pl + 1 else lab z) y)) → (∀ y, z ≤ y → y < 3 → g2 y = labI (lab y)) → (4 - z) < fuel → VM G x q h0 (sI S 19 g2) 84 [(0, .ref (q 0)), (1, .int (nI pat)), (2, .int (nI way)), (3, .int (nI s)), (4, .int (nI fr)), (5, .int (nI e)), (6, .int (nI pl)), (7, .int (nI k)), (8, .int (nI (8 * pat + k))), (9, .int (nI z))] [] := by
                      intro fuel
                      induction fuel with
                      | zero => intro z g2 hz hga hgb hf9; exact absurd hf9 (Nat.not_lt_zero _)
                      | succ fuel ih_84 =>
                        intro z g2 hz hga hgb hf9
                        refine m_iload C d_X7_goes_84 9 rfl ?_
                        refine m_iconst C d_X7_goes_86 (v := (nI 3)) rfl ?_
                        refine mn_icmp_ge C d_X7_goes_87 (tgt := 131) rfl (by omega) (by omega) (fun c_87 => ?_) (fun c_87 => ?_)
                        · skip
                          obtain rfl : z = 3 := by omega
                          refine mn_iinc C d_X7_goes_131 (lv' := [(6, .int (nI (pl + 1))), (0, .ref (q 0)), (1, .int (nI pat)), (2, .int (nI way)), (3, .int (nI s)), (4, .int (nI fr)), (5, .int (nI e)), (7, .int (nI k)), (8, .int (nI (8 * pat + k))), (9, .int (nI 3))]) 6 rfl (nI_inc _ rfl) (by decide) rfl ?_
                          refine mn_iinc C d_X7_goes_134 (lv' := [(7, .int (nI (k + 1))), (6, .int (nI (pl + 1))), (0, .ref (q 0)), (1, .int (nI pat)), (2, .int (nI way)), (3, .int (nI s)), (4, .int (nI fr)), (5, .int (nI e)), (8, .int (nI (8 * pat + k))), (9, .int (nI 3))]) 7 rfl (nI_inc _ rfl) (by decide) rfl ?_
                          refine m_goto C d_X7_goes_137 (tgt := 30) rfl ?_
                          refine m_lv (lv' := [(0, .ref (q 0)), (1, .int (nI pat)), (2, .int (nI way)), (3, .int (nI s)), (4, .int (nI fr)), (5, .int (nI e)), (6, .int (nI (pl + 1))), (7, .int (nI (k + 1)))]) [2, 3, 4, 5, 6, 7, 1, 0] rfl ?_
                          exact ih_30 (k + 1) (pl + 1) ((fun z => if mN S 13 (8 * pat + k) / 2 ^ z % 2 = 1 then pl + 1 else lab z)) g2 (by omega) (by rw [goA_succ hg, if_pos c_48, if_neg (fun z => z.elim (fun y => absurd y c_64) (fun y => by rw [c_76] at y; cases y))]) (by omega) (fun z hz => ⟨hga z hz, ite_le (by omega) (hgl z hz).2⟩) (by omega)
                        · skip
                          have join_124 : VM G x q h0 (sI S 19 g2) 124 [(0, .ref (q 0)), (1, .int (nI pat)), (2, .int (nI way)), (3, .int (nI s)), (4, .int (nI fr)), (5, .int (nI e)), (6, .int (nI pl)), (7, .int (nI k)), (8, .int (nI (8 * pat + k))), (9, .int (nI z))] [.int (labI (if mN S 13 (8 * pat + k) / 2 ^ z % 2 = 1 then pl + 1 else lab z)), .int (nI z), .ref (q 19)] := by
                            refine m_astI C d_X7_goes_124 (k := 19) (v := labI (if mN S 13 (8 * pat + k) / 2 ^ z % 2 = 1 then pl + 1 else lab z)) (by decide) rfl (by show _ < 3; omega) (by decide) ?_
                            refine mn_iinc C d_X7_goes_125 (lv' := [(9, .int (nI (z + 1))), (0, .ref (q 0)), (1, .int (nI pat)), (2, .int (nI way)), (3, .int (nI s)), (4, .int (nI fr)), (5, .int (nI e)), (6, .int (nI pl)), (7, .int (nI k)), (8, .int (nI (8 * pat + k)))]) 9 rfl (nI_inc _ rfl) (by decide) rfl ?_
                            refine m_goto C d_X7_goes_128 (tgt := 84) rfl ?_
                            refine m_eq (S' := sI S 19 (fun y => if y = z then labI (if mN S 13 (8 * pat + k) / 2 ^ z % 2 = 1 then pl + 1 else lab z) else g2 y)) (sI_step (fun _ => rfl)) ?_
                            refine m_lv (lv' := [(0, .ref (q 0)), (1, .int (nI pat)), (2, .int (nI way)), (3, .int (nI s)), (4, .int (nI fr)), (5, .int (nI e)), (6, .int (nI pl)), (7, .int (nI k)), (8, .int (nI (8 * pat + k))), (9, .int (nI (z + 1)))]) [1, 2, 3, 4, 5, 6, 7, 8, 9, 0] rfl ?_
                            exact ih_84 (z + 1) (fun y => if y = z then labI (if mN S 13 (8 * pat + k) / 2 ^ z % 2 = 1 then pl + 1 else lab z) else g2 y) (by omega) (fun y hy => by show (if y = z then labI (if mN S 13 (8 * pat + k) / 2 ^ z % 2 = 1 then pl + 1 else lab z) else g2 y) = _; split; (rename_i q; rw [q]); exact hga y (by omega)) (fun y h1 h2 => by show (if y = z then labI (if mN S 13 (8 * pat + k) / 2 ^ z % 2 = 1 then pl + 1 else lab z) else g2 y) = _; rw [if_neg (by omega)]; exact hgb y (by omega) h2) (by omega)
                          refine m_aload_n C d_X7_goes_90 0 rfl ?_
                          refine m_get C d_X7_goes_91 fd_RX7_60 (v := .ref (q 19)) rfl ?_
                          refine m_iload C d_X7_goes_94 9 rfl ?_
                          refine m_aload_n C d_X7_goes_96 0 rfl ?_
                          refine m_get C d_X7_goes_97 fd_RX7_48 (v := .ref (q 13)) rfl ?_
                          refine m_iload C d_X7_goes_100 8 rfl ?_
                          refine m_ald C d_X7_goes_102 (k := 13) (by decide) rfl (by show _ < 168; omega) (by decide) ?_
                          refine m_st (st' := [.int (nI (mN S 13 (8 * pat + k))), .int (nI z), .ref (q 19)]) rfl ?_
                          refine m_iload C d_X7_goes_103 9 rfl ?_
                          refine mn_ishr C d_X7_goes_105 (by have := I.2.2.2.2.2.2.2.1 (8 * pat + k) (by omega); omega) (by omega) ?_
                          refine m_iconst C d_X7_goes_106 (v := (nI 1)) rfl ?_
                          refine mn_iand C d_X7_goes_107 ?_
                          refine m_st (st' := [.int (nI (mN S 13 (8 * pat + k) / 2 ^ z % 2)), .int (nI z), .ref (q 19)]) (by rw [and1]) ?_
                          refine m_iconst C d_X7_goes_108 (v := (nI 1)) rfl ?_
                          refine mn_icmp_ne C d_X7_goes_109 (tgt := 117) rfl (by omega) (by omega) (fun c_109 => ?_) (fun c_109 => ?_)
                          · skip
                            refine m_aload_n C d_X7_goes_117 0 rfl ?_
                            refine m_get C d_X7_goes_118 fd_RX7_60 (v := .ref (q 19)) rfl ?_
                            refine m_iload C d_X7_goes_121 9 rfl ?_
                            refine m_aldI C d_X7_goes_123 (k := 19) (by decide) rfl (by show _ < 3; omega) (by decide) ?_
                            refine m_st (st' := [.int (labI (if mN S 13 (8 * pat + k) / 2 ^ z % 2 = 1 then pl + 1 else lab z)), .int (nI z), .ref (q 19)]) (by rw [if_neg c_109, show mI (sI S 19 g2) 19 z = labI (lab z) from hgb z (Nat.le_refl _) (by omega)]) ?_
                            exact join_124  
                          · skip
                            refine m_iload C d_X7_goes_112 6 rfl ?_
                            refine m_goto C d_X7_goes_114 (tgt := 124) rfl ?_
                            refine m_st (st' := [.int (labI (if mN S 13 (8 * pat + k) / 2 ^ z % 2 = 1 then pl + 1 else lab z)), .int (nI z), .ref (q 19)]) (by rw [if_pos c_109, labI_p (by omega), Nat.add_sub_cancel]) ?_
                            exact join_124  
                    refine m_lv (lv' := [(0, .ref (q 0)), (1, .int (nI pat)), (2, .int (nI way)), (3, .int (nI s)), (4, .int (nI fr)), (5, .int (nI e)), (6, .int (nI pl)), (7, .int (nI k)), (8, .int (nI ((8 * pat) + k))), (9, .int (nI 0))]) [2, 3, 4, 5, 6, 7, 8, 9, 1, 0] rfl ?_
                    refine m_lve (lv' := [(0, .ref (q 0)), (1, .int (nI pat)), (2, .int (nI way)), (3, .int (nI s)), (4, .int (nI fr)), (5, .int (nI e)), (6, .int (nI pl)), (7, .int (nI k)), (8, .int (nI (8 * pat + k))), (9, .int (nI 0))]) (rfl) ?_
                    exact loop_84 _ 0 g (by omega) (fun y hy => absurd hy (Nat.not_lt_zero _)) (fun y _ hy => (hgl y hy).1) (Nat.lt_succ_self _)
                  · skip
                    refine m_iconst C d_X7_goes_79 (v := ((-1))) rfl ?_
                    exact m_iret C A TY d_X7_goes_80 rfl (⟨congrArg (fun z => some (Value.int z)) (goI_none (k := k) (by rw [goA_succ hg, if_pos c_48, if_pos (Or.inr c_76)]) (by omega)).symm, _, rfl⟩)
        refine m_lv (lv' := [(0, .ref (q 0)), (1, .int (nI pat)), (2, .int (nI way)), (3, .int (nI s)), (4, .int (nI fr)), (5, .int (nI e)), (6, .int (nI fr)), (7, .int (nI 0))]) [1, 2, 3, 4, 5, 6, 7, 0] rfl ?_
        exact loop_30 _ 0 fr (fun _ => 0) g (by omega) (rfl) (by omega) (fun z hz => ⟨(hg0 z (by omega)).trans labI_0.symm, Nat.zero_le _⟩) (Nat.lt_succ_self _)
      · skip
        refine m_aload_n C d_X7_goes_13 0 rfl ?_
        refine m_get C d_X7_goes_14 fd_RX7_60 (v := .ref (q 19)) rfl ?_
        refine m_iload C d_X7_goes_17 7 rfl ?_
        refine m_iconst C d_X7_goes_19 (v := ((-1))) rfl ?_
        refine m_astI C d_X7_goes_20 (k := 19) (v := (-1)) (by decide) rfl (by show _ < 3; omega) (by decide) ?_
        refine mn_iinc C d_X7_goes_21 (lv' := [(7, .int (nI (k + 1))), (0, .ref (q 0)), (1, .int (nI pat)), (2, .int (nI way)), (3, .int (nI s)), (4, .int (nI fr)), (5, .int (nI e)), (6, .int (nI fr))]) 7 rfl (nI_inc _ rfl) (by decide) rfl ?_
        refine m_goto C d_X7_goes_24 (tgt := 7) rfl ?_
        refine m_eq (S' := sI S 19 (fun z => if z = k then (-1 : Int32) else g z)) (sI_step (fun _ => rfl)) ?_
        refine m_lv (lv' := [(0, .ref (q 0)), (1, .int (nI pat)), (2, .int (nI way)), (3, .int (nI s)), (4, .int (nI fr)), (5, .int (nI e)), (6, .int (nI fr)), (7, .int (nI (k + 1)))]) [1, 2, 3, 4, 5, 6, 7, 0] rfl ?_
        exact ih_7 (k + 1) (fun z => if z = k then (-1 : Int32) else g z) (by omega) (fun z hz => by show (if z = k then (-1 : Int32) else g z) = -1; split; rfl; exact hg0 z (by omega)) (by omega)
  refine m_lv (lv' := [(0, .ref (q 0)), (1, .int (nI pat)), (2, .int (nI way)), (3, .int (nI s)), (4, .int (nI fr)), (5, .int (nI e)), (6, .int (nI fr)), (7, .int (nI 0))]) [2, 3, 4, 5, 6, 7, 1, 0] rfl ?_
  exact loop_7 _ 0 f (by omega) (fun z hz => absurd hz (Nat.not_lt_zero _)) (Nat.lt_succ_self _)
def dl_X7_endOf : List (Nat × Instr × Nat) := [(0, .iload_n 2, 1), (1, .iconst 1, 1), (2, .iadd, 1), (3, .istore 4, 2), (5, .iload 4, 2), (7, .aload_n 0, 1), (8, .getfield 7, 3), (11, .iload_n 1, 1), (12, .iaload, 1), (13, .if_icmp .ge 73, 3), (16, .iload_n 3, 1), (17, .ifCond .eq 63, 3), (20, .iload_n 3, 1), (21, .iconst 1, 1), (22, .if_icmp .ne 32, 3), (25, .aload_n 0, 1), (26, .getfield 16, 3), (29, .bipush 40, 2), (31, .iload_n 1, 1), (32, .imul, 1), (33, .iload 4, 2), (35, .iadd, 1), (36, .iaload, 1), (37, .aload_n 0, 1), (38, .getfield 16, 3), (41, .bipush 40, 2), (43, .iload_n 1, 1), (44, .imul, 1), (45, .iload_n 2, 1), (46, .iadd, 1), (47, .iaload, 1), (48, .if_icmp .ne 38, 3), (51, .goto 29, 3), (54, .aload_n 0, 1), (55, .getfield 19, 3), (58, .bipush 40, 2), (60, .iload_n 1, 1), (61, .imul, 1), (62, .iload 4, 2), (64, .iadd, 1), (65, .iaload, 1), (66, .aload_n 0, 1), (67, .getfield 19, 3), (70, .bipush 40, 2), (72, .iload_n 1, 1), (73, .imul, 1), (74, .iload_n 2, 1), (75, .iadd, 1), (76, .iaload, 1), (77, .if_icmp .ne 9, 3), (80, .iinc 4 1, 3), (83, .goto (-78), 3), (86, .iload 4, 2), (88, .ireturn, 1)]
theorem dc_X7_endOf : dnL cX7_endOf dl_X7_endOf = true := by decide +kernel
theorem d_X7_endOf_0 : dn cX7_endOf 0 (.iload_n 2) 1 1 := dnAt dc_X7_endOf 0 rfl rfl
theorem d_X7_endOf_1 : dn cX7_endOf 1 (.iconst 1) 1 2 := dnAt dc_X7_endOf 1 rfl rfl
theorem d_X7_endOf_2 : dn cX7_endOf 2 (.iadd) 1 3 := dnAt dc_X7_endOf 2 rfl rfl
theorem d_X7_endOf_3 : dn cX7_endOf 3 (.istore 4) 2 5 := dnAt dc_X7_endOf 3 rfl rfl
theorem d_X7_endOf_5 : dn cX7_endOf 5 (.iload 4) 2 7 := dnAt dc_X7_endOf 4 rfl rfl
theorem d_X7_endOf_7 : dn cX7_endOf 7 (.aload_n 0) 1 8 := dnAt dc_X7_endOf 5 rfl rfl
theorem d_X7_endOf_8 : dn cX7_endOf 8 (.getfield 7) 3 11 := dnAt dc_X7_endOf 6 rfl rfl
theorem d_X7_endOf_11 : dn cX7_endOf 11 (.iload_n 1) 1 12 := dnAt dc_X7_endOf 7 rfl rfl
theorem d_X7_endOf_12 : dn cX7_endOf 12 (.iaload) 1 13 := dnAt dc_X7_endOf 8 rfl rfl
theorem d_X7_endOf_13 : dn cX7_endOf 13 (.if_icmp .ge 73) 3 16 := dnAt dc_X7_endOf 9 rfl rfl
theorem d_X7_endOf_16 : dn cX7_endOf 16 (.iload_n 3) 1 17 := dnAt dc_X7_endOf 10 rfl rfl
theorem d_X7_endOf_17 : dn cX7_endOf 17 (.ifCond .eq 63) 3 20 := dnAt dc_X7_endOf 11 rfl rfl
theorem d_X7_endOf_20 : dn cX7_endOf 20 (.iload_n 3) 1 21 := dnAt dc_X7_endOf 12 rfl rfl
theorem d_X7_endOf_21 : dn cX7_endOf 21 (.iconst 1) 1 22 := dnAt dc_X7_endOf 13 rfl rfl
theorem d_X7_endOf_22 : dn cX7_endOf 22 (.if_icmp .ne 32) 3 25 := dnAt dc_X7_endOf 14 rfl rfl
theorem d_X7_endOf_25 : dn cX7_endOf 25 (.aload_n 0) 1 26 := dnAt dc_X7_endOf 15 rfl rfl
theorem d_X7_endOf_26 : dn cX7_endOf 26 (.getfield 16) 3 29 := dnAt dc_X7_endOf 16 rfl rfl
theorem d_X7_endOf_29 : dn cX7_endOf 29 (.bipush 40) 2 31 := dnAt dc_X7_endOf 17 rfl rfl
theorem d_X7_endOf_31 : dn cX7_endOf 31 (.iload_n 1) 1 32 := dnAt dc_X7_endOf 18 rfl rfl
theorem d_X7_endOf_32 : dn cX7_endOf 32 (.imul) 1 33 := dnAt dc_X7_endOf 19 rfl rfl
theorem d_X7_endOf_33 : dn cX7_endOf 33 (.iload 4) 2 35 := dnAt dc_X7_endOf 20 rfl rfl
theorem d_X7_endOf_35 : dn cX7_endOf 35 (.iadd) 1 36 := dnAt dc_X7_endOf 21 rfl rfl
theorem d_X7_endOf_36 : dn cX7_endOf 36 (.iaload) 1 37 := dnAt dc_X7_endOf 22 rfl rfl
theorem d_X7_endOf_37 : dn cX7_endOf 37 (.aload_n 0) 1 38 := dnAt dc_X7_endOf 23 rfl rfl
theorem d_X7_endOf_38 : dn cX7_endOf 38 (.getfield 16) 3 41 := dnAt dc_X7_endOf 24 rfl rfl
theorem d_X7_endOf_41 : dn cX7_endOf 41 (.bipush 40) 2 43 := dnAt dc_X7_endOf 25 rfl rfl
theorem d_X7_endOf_43 : dn cX7_endOf 43 (.iload_n 1) 1 44 := dnAt dc_X7_endOf 26 rfl rfl
theorem d_X7_endOf_44 : dn cX7_endOf 44 (.imul) 1 45 := dnAt dc_X7_endOf 27 rfl rfl
theorem d_X7_endOf_45 : dn cX7_endOf 45 (.iload_n 2) 1 46 := dnAt dc_X7_endOf 28 rfl rfl
theorem d_X7_endOf_46 : dn cX7_endOf 46 (.iadd) 1 47 := dnAt dc_X7_endOf 29 rfl rfl
theorem d_X7_endOf_47 : dn cX7_endOf 47 (.iaload) 1 48 := dnAt dc_X7_endOf 30 rfl rfl
theorem d_X7_endOf_48 : dn cX7_endOf 48 (.if_icmp .ne 38) 3 51 := dnAt dc_X7_endOf 31 rfl rfl
theorem d_X7_endOf_51 : dn cX7_endOf 51 (.goto 29) 3 54 := dnAt dc_X7_endOf 32 rfl rfl
theorem d_X7_endOf_54 : dn cX7_endOf 54 (.aload_n 0) 1 55 := dnAt dc_X7_endOf 33 rfl rfl
theorem d_X7_endOf_55 : dn cX7_endOf 55 (.getfield 19) 3 58 := dnAt dc_X7_endOf 34 rfl rfl
theorem d_X7_endOf_58 : dn cX7_endOf 58 (.bipush 40) 2 60 := dnAt dc_X7_endOf 35 rfl rfl
theorem d_X7_endOf_60 : dn cX7_endOf 60 (.iload_n 1) 1 61 := dnAt dc_X7_endOf 36 rfl rfl
theorem d_X7_endOf_61 : dn cX7_endOf 61 (.imul) 1 62 := dnAt dc_X7_endOf 37 rfl rfl
theorem d_X7_endOf_62 : dn cX7_endOf 62 (.iload 4) 2 64 := dnAt dc_X7_endOf 38 rfl rfl
theorem d_X7_endOf_64 : dn cX7_endOf 64 (.iadd) 1 65 := dnAt dc_X7_endOf 39 rfl rfl
theorem d_X7_endOf_65 : dn cX7_endOf 65 (.iaload) 1 66 := dnAt dc_X7_endOf 40 rfl rfl
theorem d_X7_endOf_66 : dn cX7_endOf 66 (.aload_n 0) 1 67 := dnAt dc_X7_endOf 41 rfl rfl
theorem d_X7_endOf_67 : dn cX7_endOf 67 (.getfield 19) 3 70 := dnAt dc_X7_endOf 42 rfl rfl
theorem d_X7_endOf_70 : dn cX7_endOf 70 (.bipush 40) 2 72 := dnAt dc_X7_endOf 43 rfl rfl
theorem d_X7_endOf_72 : dn cX7_endOf 72 (.iload_n 1) 1 73 := dnAt dc_X7_endOf 44 rfl rfl
theorem d_X7_endOf_73 : dn cX7_endOf 73 (.imul) 1 74 := dnAt dc_X7_endOf 45 rfl rfl
theorem d_X7_endOf_74 : dn cX7_endOf 74 (.iload_n 2) 1 75 := dnAt dc_X7_endOf 46 rfl rfl
theorem d_X7_endOf_75 : dn cX7_endOf 75 (.iadd) 1 76 := dnAt dc_X7_endOf 47 rfl rfl
theorem d_X7_endOf_76 : dn cX7_endOf 76 (.iaload) 1 77 := dnAt dc_X7_endOf 48 rfl rfl
theorem d_X7_endOf_77 : dn cX7_endOf 77 (.if_icmp .ne 9) 3 80 := dnAt dc_X7_endOf 49 rfl rfl
theorem d_X7_endOf_80 : dn cX7_endOf 80 (.iinc 4 1) 3 83 := dnAt dc_X7_endOf 50 rfl rfl
theorem d_X7_endOf_83 : dn cX7_endOf 83 (.goto (-78)) 3 86 := dnAt dc_X7_endOf 51 rfl rfl
theorem d_X7_endOf_86 : dn cX7_endOf 86 (.iload 4) 2 88 := dnAt dc_X7_endOf 52 rfl rfl
theorem d_X7_endOf_88 : dn cX7_endOf 88 (.ireturn) 1 89 := dnAt dc_X7_endOf 53 rfl rfl
set_option maxHeartbeats 4000000 in
set_option maxRecDepth 100000 in
theorem m_endOf (S : mS) (s p bd : Nat) (I : mCore S) (hs : s < 2) (hp : p < mN S 1 s) (hb : bd < 2147483648) : mC yX7_endOf cX7_endOf 5 (Option.some Jvm.ClassFile.FieldType.int) { frames := 0, cells := 0, slots := 0, locals := 0 } [.int (nI s), .int (nI p), .int (nI bd)] S (fun v9 T9 => v9 = (some (.int (nI (eOf S s p bd)))) ∧ T9 = S) := by
  refine mC.of (by decide) (Nat.le_of_ble_eq_true rfl) ?_
  intro G x q h0 C A TY
  show VM G x q h0 S 0 [(0, .ref (q 0)), (1, .int (nI s)), (2, .int (nI p)), (3, .int (nI bd))] []
  have i1 := I.1 s hs
  refine m_iload_n C d_X7_endOf_0 2 rfl ?_
  refine m_iconst C d_X7_endOf_1 (v := (nI 1)) rfl ?_
  refine mn_iadd C d_X7_endOf_2 ?_
  refine m_istore C d_X7_endOf_3 (lv' := [(4, .int (nI (p + 1))), (0, .ref (q 0)), (1, .int (nI s)), (2, .int (nI p)), (3, .int (nI bd))]) (by decide) rfl ?_
  have loop_5 : ∀ (fuel : Nat) (j : Nat) (e : Nat), (eOf S s p bd = eGo S s p bd j e) → (mN S 1 s < e + j ∧ e ≤ mN S 1 s) → (42 - e) < fuel → VM G x q h0 S 5 [(0, .ref (q 0)), (1, .int (nI s)), (2, .int (nI p)), (3, .int (nI bd)), (4, .int (nI e))] [] := by
    intro fuel
    induction fuel with
    | zero => intro j e he hj hf9; exact absurd hf9 (Nat.not_lt_zero _)
    | succ fuel ih_5 =>
      intro j e he hj hf9
      refine m_iload C d_X7_endOf_5 4 rfl ?_
      have join_86 : (eOf S s p bd = e) → VM G x q h0 S 86 [(0, .ref (q 0)), (4, .int (nI e))] [] := by
        intro hee
        refine m_iload C d_X7_endOf_86 1 rfl ?_
        refine m_st (st' := [.int (nI (eOf S s p bd))]) (by rw [hee]) ?_
        exact m_iret C A TY d_X7_endOf_88 rfl (⟨rfl, rfl⟩)
      refine m_aload_n C d_X7_endOf_7 0 rfl ?_
      refine m_get C d_X7_endOf_8 fd_RX7_7 (v := .ref (q 1)) rfl ?_
      refine m_iload_n C d_X7_endOf_11 1 rfl ?_
      refine m_ald C d_X7_endOf_12 (k := 1) (by decide) rfl (by show _ < 2; omega) (by decide) ?_
      refine mn_icmp_ge C d_X7_endOf_13 (tgt := 86) rfl (by omega) (by omega) (fun c_13 => ?_) (fun c_13 => ?_)
      · skip
        refine m_lv (lv' := [(0, .ref (q 0)), (4, .int (nI e))]) [0, 4] rfl ?_
        exact join_86  (by rw [he, show j = (j - 1) + 1 by omega, eGo, if_neg (fun z => absurd z.1 (by omega))])
      · skip
        refine m_iload_n C d_X7_endOf_16 3 rfl ?_
        refine mn_if_eq C d_X7_endOf_17 (tgt := 80) rfl (by omega) (fun c_17 => ?_) (fun c_17 => ?_)
        · skip
          refine mn_iinc C d_X7_endOf_80 (lv' := [(4, .int (nI (e + 1))), (0, .ref (q 0)), (1, .int (nI s)), (2, .int (nI p)), (3, .int (nI bd))]) 4 rfl (nI_inc _ rfl) (by decide) rfl ?_
          refine m_goto C d_X7_endOf_83 (tgt := 5) rfl ?_
          refine m_lv (lv' := [(0, .ref (q 0)), (1, .int (nI s)), (2, .int (nI p)), (3, .int (nI bd)), (4, .int (nI (e + 1)))]) [1, 2, 3, 4, 0] rfl ?_
          exact ih_5 (j - 1) (e + 1) (by rw [he, show j = (j - 1) + 1 by omega, eGo, if_pos ⟨c_13, by rw [inB, decide_eq_true c_17]; rfl⟩]; rfl) (by omega) (by omega)
        · skip
          refine m_iload_n C d_X7_endOf_20 3 rfl ?_
          refine m_iconst C d_X7_endOf_21 (v := (nI 1)) rfl ?_
          refine mn_icmp_ne C d_X7_endOf_22 (tgt := 54) rfl (by omega) (by omega) (fun c_22 => ?_) (fun c_22 => ?_)
          · skip
            refine m_aload_n C d_X7_endOf_54 0 rfl ?_
            refine m_get C d_X7_endOf_55 fd_RX7_19 (v := .ref (q 4)) rfl ?_
            refine m_bipush C d_X7_endOf_58 (v := (nI 40)) rfl ?_
            refine m_iload_n C d_X7_endOf_60 1 rfl ?_
            refine mn_imul C d_X7_endOf_61 ?_
            refine m_iload C d_X7_endOf_62 4 rfl ?_
            refine mn_iadd C d_X7_endOf_64 ?_
            refine m_ald C d_X7_endOf_65 (k := 4) (by decide) rfl (by show _ < 80; omega) (by decide) ?_
            refine m_aload_n C d_X7_endOf_66 0 rfl ?_
            refine m_get C d_X7_endOf_67 fd_RX7_19 (v := .ref (q 4)) rfl ?_
            refine m_bipush C d_X7_endOf_70 (v := (nI 40)) rfl ?_
            refine m_iload_n C d_X7_endOf_72 1 rfl ?_
            refine mn_imul C d_X7_endOf_73 ?_
            refine m_iload_n C d_X7_endOf_74 2 rfl ?_
            refine mn_iadd C d_X7_endOf_75 ?_
            refine m_ald C d_X7_endOf_76 (k := 4) (by decide) rfl (by show _ < 80; omega) (by decide) ?_
            refine mn_icmp_ne C d_X7_endOf_77 (tgt := 86) rfl (by have := I.2.2.2.1 (40 * s + e) (by omega); omega) (by have := I.2.2.2.1 (40 * s + p) (by omega); omega) (fun c_77 => ?_) (fun c_77 => ?_)
            · skip
              refine m_lv (lv' := [(0, .ref (q 0)), (4, .int (nI e))]) [0, 4] rfl ?_
              exact join_86  (by rw [he, show j = (j - 1) + 1 by omega, eGo, if_neg (fun z => absurd z.2 (by rw [inB, decide_eq_false (by omega), if_neg c_22, decide_eq_false c_77]; decide))])
            · skip
              refine mn_iinc C d_X7_endOf_80 (lv' := [(4, .int (nI (e + 1))), (0, .ref (q 0)), (1, .int (nI s)), (2, .int (nI p)), (3, .int (nI bd))]) 4 rfl (nI_inc _ rfl) (by decide) rfl ?_
              refine m_goto C d_X7_endOf_83 (tgt := 5) rfl ?_
              refine m_lv (lv' := [(0, .ref (q 0)), (1, .int (nI s)), (2, .int (nI p)), (3, .int (nI bd)), (4, .int (nI (e + 1)))]) [1, 2, 3, 4, 0] rfl ?_
              exact ih_5 (j - 1) (e + 1) (by rw [he, show j = (j - 1) + 1 by omega, eGo, if_pos ⟨c_13, by rw [inB, if_neg c_22, decide_eq_true c_77, Bool.or_true]⟩]; rfl) (by omega) (by omega)
          · skip
            refine m_aload_n C d_X7_endOf_25 0 rfl ?_
            refine m_get C d_X7_endOf_26 fd_RX7_16 (v := .ref (q 3)) rfl ?_
            refine m_bipush C d_X7_endOf_29 (v := (nI 40)) rfl ?_
            refine m_iload_n C d_X7_endOf_31 1 rfl ?_
            refine mn_imul C d_X7_endOf_32 ?_
            refine m_iload C d_X7_endOf_33 4 rfl ?_
            refine mn_iadd C d_X7_endOf_35 ?_
            refine m_ald C d_X7_endOf_36 (k := 3) (by decide) rfl (by show _ < 80; omega) (by decide) ?_
            refine m_aload_n C d_X7_endOf_37 0 rfl ?_
            refine m_get C d_X7_endOf_38 fd_RX7_16 (v := .ref (q 3)) rfl ?_
            refine m_bipush C d_X7_endOf_41 (v := (nI 40)) rfl ?_
            refine m_iload_n C d_X7_endOf_43 1 rfl ?_
            refine mn_imul C d_X7_endOf_44 ?_
            refine m_iload_n C d_X7_endOf_45 2 rfl ?_
            refine mn_iadd C d_X7_endOf_46 ?_
            refine m_ald C d_X7_endOf_47 (k := 3) (by decide) rfl (by show _ < 80; omega) (by decide) ?_
            refine mn_icmp_ne C d_X7_endOf_48 (tgt := 86) rfl (by have := I.2.2.1 (40 * s + e) (by omega); omega) (by have := I.2.2.1 (40 * s + p) (by omega); omega) (fun c_48 => ?_) (fun c_48 => ?_)
            · skip
              refine m_lv (lv' := [(0, .ref (q 0)), (4, .int (nI e))]) [0, 4] rfl ?_
              exact join_86  (by rw [he, show j = (j - 1) + 1 by omega, eGo, if_neg (fun z => absurd z.2 (by rw [inB, decide_eq_false (by omega), if_pos c_22, decide_eq_false c_48]; decide))])
            · skip
              refine m_goto C d_X7_endOf_51 (tgt := 80) rfl ?_
              refine mn_iinc C d_X7_endOf_80 (lv' := [(4, .int (nI (e + 1))), (0, .ref (q 0)), (1, .int (nI s)), (2, .int (nI p)), (3, .int (nI bd))]) 4 rfl (nI_inc _ rfl) (by decide) rfl ?_
              refine m_goto C d_X7_endOf_83 (tgt := 5) rfl ?_
              refine m_lv (lv' := [(0, .ref (q 0)), (1, .int (nI s)), (2, .int (nI p)), (3, .int (nI bd)), (4, .int (nI (e + 1)))]) [1, 2, 3, 4, 0] rfl ?_
              exact ih_5 (j - 1) (e + 1) (by rw [he, show j = (j - 1) + 1 by omega, eGo, if_pos ⟨c_13, by rw [inB, if_pos c_22, decide_eq_true c_48, Bool.or_true]⟩]; rfl) (by omega) (by omega)
  refine m_lv (lv' := [(0, .ref (q 0)), (1, .int (nI s)), (2, .int (nI p)), (3, .int (nI bd)), (4, .int (nI (p + 1)))]) [1, 2, 3, 4, 0] rfl ?_
  exact loop_5 _ 41 (p + 1) (rfl) (by omega) (Nat.lt_succ_self _)
