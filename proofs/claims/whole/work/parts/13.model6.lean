theorem tw_785 : (Jvm.Cond.methodLink "CorpuslineModel" (105 : Nat) ({ cls := "CorpuslineModel", name := "testsInAll", desc := "()I" } : Jvm.MethodName)) ∈ TB := tb_of 785 (by decide +kernel) rfl
theorem tw_787 : (Jvm.Cond.instanceMethod ({ cls := "CorpuslineModel", name := "testsInAll", desc := "()I" } : Jvm.MethodName)) ∈ TB := tb_of 787 (by decide +kernel) rfl
theorem tw_788 : (Jvm.Cond.code ({ cls := "CorpuslineModel", name := "testsInAll", desc := "()I" } : Jvm.MethodName) prog_9_method_15_code (3 : Nat) (Option.some Jvm.ClassFile.FieldType.int)) ∈ TB := tb_of 788 (by decide +kernel) rfl
theorem tw_789 : (Jvm.Cond.methodLink "CorpuslineModel" (109 : Nat) ({ cls := "CorpuslineModel", name := "puts", desc := "()I" } : Jvm.MethodName)) ∈ TB := tb_of 789 (by decide +kernel) rfl
theorem tw_791 : (Jvm.Cond.instanceMethod ({ cls := "CorpuslineModel", name := "puts", desc := "()I" } : Jvm.MethodName)) ∈ TB := tb_of 791 (by decide +kernel) rfl
theorem tw_792 : (Jvm.Cond.code ({ cls := "CorpuslineModel", name := "puts", desc := "()I" } : Jvm.MethodName) prog_9_method_16_code (4 : Nat) (Option.some Jvm.ClassFile.FieldType.int)) ∈ TB := tb_of 792 (by decide +kernel) rfl
theorem tw_801 : (Jvm.Cond.methodLink "CorpuslineModel" (112 : Nat) ({ cls := "CorpuslineModel", name := "isLabel", desc := "(I)Z" } : Jvm.MethodName)) ∈ TB := tb_of 801 (by decide +kernel) rfl
theorem tw_802 : (Jvm.Cond.static ({ cls := "CorpuslineModel", name := "isLabel", desc := "(I)Z" } : Jvm.MethodName)) ∈ TB := tb_of 802 (by decide +kernel) rfl
theorem tw_803 : (Jvm.Cond.code ({ cls := "CorpuslineModel", name := "isLabel", desc := "(I)Z" } : Jvm.MethodName) prog_9_method_21_code (1 : Nat) (Option.some Jvm.ClassFile.FieldType.boolean)) ∈ TB := tb_of 803 (by decide +kernel) rfl
theorem ts_21 : Cond.selects "CorpuslineModel" ({ cls := "CorpuslineModel", name := "testsInAll", desc := "()I" } : MethodName) ({ cls := "CorpuslineModel", name := "testsInAll", desc := "()I" } : MethodName) ∈ TB := tb_sel 21 (by decide +kernel) rfl
theorem ts_22 : Cond.selects "CorpuslineModel" ({ cls := "CorpuslineModel", name := "puts", desc := "()I" } : MethodName) ({ cls := "CorpuslineModel", name := "puts", desc := "()I" } : MethodName) ∈ TB := tb_sel 22 (by decide +kernel) rfl
theorem ok_RX7_112 : okS RX7 112 yX7_isLabel cX7_isLabel 1 (Option.some Jvm.ClassFile.FieldType.boolean) 1 := ⟨tw_801, tw_802, tw_5, tw_803, ⟨by decide, by decide, by decide +kernel⟩⟩
theorem ok_RX7_105 : okV RX7 105 yX7_testsInAll cX7_testsInAll 3 (Option.some Jvm.ClassFile.FieldType.int) 0 := ⟨tw_785, tw_787, ts_21, tw_5, tw_788, ⟨by decide, by decide, by decide +kernel⟩⟩
theorem ok_RX7_109 : okV RX7 109 yX7_puts cX7_puts 4 (Option.some Jvm.ClassFile.FieldType.int) 0 := ⟨tw_789, tw_791, ts_22, tw_5, tw_792, ⟨by decide, by decide, by decide +kernel⟩⟩
theorem cTest_0 {S : mS} {a v : Int32} (h : cTest S a v = 0) : inR a 0 2 = true ∧ inR v 0 99 = true ∧ mTests S ≠ 8 := by
  unfold cTest at h
  split at h
  · rename_i c
    rw [Bool.and_eq_true] at c
    split at h
    · omega
    · exact ⟨c.1, c.2, by assumption⟩
  · omega
theorem cSame_0 {S : mS} {a v : Int32} (h : cSame S a v = 0) : inR a 0 2 = true ∧ inR v 0 2 = true ∧ mTests S ≠ 8 := by
  unfold cSame at h
  split at h
  · rename_i c
    rw [Bool.and_eq_true] at c
    split at h
    · omega
    · exact ⟨c.1, c.2, by assumption⟩
  · omega
theorem cLabel_0 {S : mS} {v : Int32} (h : cLabel S v = 0) : inR v 0 2 = true ∧ canL S = true := by
  unfold cLabel at h
  split at h
  · split at h
    · exact ⟨by assumption, by assumption⟩
    · omega
  · omega
theorem canL_of {S : mS} (h : canL S = true) : 0 < mK S 16 ∧ mB S 9 (12 + mK S 16 - 1) = true := by
  simpa [canL] using h
theorem canB_of {S : mS} (h : canB S = true) : 1 < mK S 16 ∧ mB S 9 (12 + mK S 16 - 1) = true ∧ mB S 9 (12 + mK S 16 - 2) = true := by
  simpa [canB] using h
theorem mTests_le {S : mS} (I : mInv S) : mTests S ≤ 8 := I.2.2.2.2.2.2.2.2.2.2.2.1
theorem pile_le {S : mS} (I : mInv S) : mK S 16 ≤ 8 := I.2.2.2.2.2.2.2.2.2.2.1
theorem pats_le {S : mS} (I : mInv S) : mK S 15 ≤ 12 := I.2.2.2.2.2.2.2.2.2.1
theorem tPuts_12 {S : mS} {x : Nat} (h1 : 48 * (12 + mK S 16) ≤ x) (h2 : x < 48 * (12 + mK S 16) + 6) : mN (tPuts S) 12 x = 0 := by
  show mN (uK (uN (uN (puV S (12 + mK S 16) 3) 13 (8 * (12 + mK S 16)) 0) 14 (8 * (12 + mK S 16)) 0) 16 (mK S 16 + 1)) 12 x = 0
  rw [mN_uK, mN_uN, if_neg (by omega), mN_uN, if_neg (by omega), puV, mN_sN, if_pos rfl, if_pos (by omega)]
theorem tPuts_14 {S : mS} : mN (tPuts S) 14 (8 * (12 + mK S 16)) = 0 := by
  show mN (uK (uN (uN (puV S (12 + mK S 16) 3) 13 (8 * (12 + mK S 16)) 0) 14 (8 * (12 + mK S 16)) 0) 16 (mK S 16 + 1)) 14 _ = 0
  rw [mN_uK, mN_uN, if_pos ⟨rfl, rfl⟩]
theorem boL_step {S : mS} {a o k : Nat} : uN (uN (uI (boL S a o k) 11 (3 * a + k) (vJoin (mI S 11 (3 * a + k)) (mI S 11 (3 * o + k)))) 12 (6 * a + 2 * k) (mN S 12 (6 * a + 2 * k) ||| mN S 12 (6 * o + 2 * k))) 12 (6 * a + 2 * k + 1) (mN S 12 (6 * a + 2 * k + 1) ||| mN S 12 (6 * o + 2 * k + 1)) = boL S a o (k + 1) := by
  unfold boL
  rw [uI_sN, sI_step (g := fun x => if 3 * a ≤ x ∧ x < 3 * a + (k + 1) then vJoin (mI S 11 x) (mI S 11 (3 * o + (x - 3 * a))) else mI S 11 x)]
  · rw [sN_step (g := fun x => if 6 * a ≤ x ∧ x < 6 * a + 2 * k + 1 then mN S 12 x ||| mN S 12 (6 * o + (x - 6 * a)) else mN S 12 x)]
    · rw [sN_step]
      intro z
      by_cases c : z = 6 * a + 2 * k + 1
      · rw [if_pos c, if_pos (by omega), c, show 6 * o + (6 * a + 2 * k + 1 - 6 * a) = 6 * o + 2 * k + 1 by omega]
      · rw [if_neg c]
        by_cases d : 6 * a ≤ z ∧ z < 6 * a + 2 * k + 1
        · rw [if_pos d, if_pos (by omega)]
        · rw [if_neg d, if_neg (by omega)]
    · intro z
      by_cases c : z = 6 * a + 2 * k
      · rw [if_pos c, if_pos (by omega), c, show 6 * o + (6 * a + 2 * k - 6 * a) = 6 * o + 2 * k by omega]
      · rw [if_neg c]
        by_cases d : 6 * a ≤ z ∧ z < 6 * a + 2 * k
        · rw [if_pos d, if_pos (by omega)]
        · rw [if_neg d, if_neg (by omega)]
  · intro z
    by_cases c : z = 3 * a + k
    · rw [if_pos c, if_pos (by omega), c, show 3 * o + (3 * a + k - 3 * a) = 3 * o + k by omega]
    · rw [if_neg c]
      by_cases d : 3 * a ≤ z ∧ z < 3 * a + k
      · rw [if_pos d, if_pos (by omega)]
      · rw [if_neg d, if_neg (by omega)]
theorem boL_0 (S : mS) (a o : Nat) : S = boL S a o 0 := by
  unfold boL
  rw [← sI_init (S := S)]
  · apply sN_init
    intro z
    rw [if_neg (by omega)]
  · intro z
    rw [if_neg (by omega)]
theorem boL_rI {S : mS} {a o k : Nat} : mI (boL S a o k) 11 (3 * a + k) = mI S 11 (3 * a + k) := by
  rw [boL, mI_sN, mI_sI, if_pos rfl, if_neg (by omega)]
theorem boL_rIo {S : mS} {a o k : Nat} (h : a ≠ o) (hk : k < 3) : mI (boL S a o k) 11 (3 * o + k) = mI S 11 (3 * o + k) := by
  rw [boL, mI_sN, mI_sI, if_pos rfl, if_neg (by omega)]
theorem boL_rN {S : mS} {a o k z : Nat} (hz : z < 6 * a ∨ 6 * a + 2 * k ≤ z) : mN (boL S a o k) 12 z = mN S 12 z := by
  rw [boL, mN_sN, if_pos rfl, if_neg (by omega)]
theorem beL_step {S : mS} {p k : Nat} (hk : k < 256) : uB (beL S p k) 10 (256 * p + k) (mB S 17 k) = beL S p (k + 1) := by
  unfold beL
  rw [sB_step]
  intro z
  by_cases c : z = 256 * p + k
  · rw [if_pos c, if_pos (by omega), c, Nat.add_sub_cancel_left]
  · rw [if_neg c]
    by_cases d : 256 * p ≤ z ∧ z < 256 * p + k
    · rw [if_pos d, if_pos (by omega)]
    · rw [if_neg d, if_neg (by omega)]
theorem beL_0 (S : mS) (p : Nat) : S = beL S p 0 := by
  unfold beL
  apply sB_init
  intro z
  rw [if_neg (by omega)]
theorem cpP_step {S : mS} {a t k : Nat} : uB (cpP S a t k) 10 (256 * t + k) (mB S 10 (256 * a + k)) = cpP S a t (k + 1) := by
  unfold cpP
  rw [sB_step]
  intro z
  by_cases c : z = 256 * t + k
  · rw [if_pos c, if_pos (by omega), c, Nat.add_sub_cancel_left]
  · rw [if_neg c]
    by_cases d : 256 * t ≤ z ∧ z < 256 * t + k
    · rw [if_pos d, if_pos (by omega)]
    · rw [if_neg d, if_neg (by omega)]
theorem cpP_0 (S : mS) (a t : Nat) : uB (uN S 8 t (mN S 8 a)) 9 t (mB S 9 a) = cpP S a t 0 := by
  unfold cpP
  apply sB_init
  intro z
  rw [if_neg (by omega)]; rfl
theorem cpP_r {S : mS} {a t k : Nat} (h : a ≠ t) (hk : k < 256) : mB (cpP S a t k) 10 (256 * a + k) = mB S 10 (256 * a + k) := by
  rw [cpP, mB_sB, if_pos rfl, if_neg (by omega)]
def chL (S : mS) (f : Nat → Bool) (k : Nat) : mS := sB S 17 (fun z => if z < k then f z else mB S 17 z)
theorem chL_0 (S : mS) (f : Nat → Bool) : S = chL S f 0 := by
  unfold chL
  apply sB_init
  intro z
  rw [if_neg (by omega)]
theorem chL_step {S : mS} {f : Nat → Bool} {k : Nat} : uB (chL S f k) 17 k (f k) = chL S f (k + 1) := by
  unfold chL
  rw [sB_step]
  intro z
  by_cases c : z = k
  · rw [if_pos c, if_pos (by omega), c]
  · rw [if_neg c]
    by_cases d : z < k
    · rw [if_pos d, if_pos (by omega)]
    · rw [if_neg d, if_neg (by omega)]
def wCh (S : mS) (p : Nat) (z : Nat) : Bool := mB S 10 (256 * p + z % 2 ^ mN S 8 p) && mB S 10 (256 * (p + 1) + z / 2 ^ mN S 8 p)
def wEi (S : mS) (p : Nat) (z : Nat) : Bool := (decide (z < 2 ^ mN S 8 p) && mB S 10 (256 * p + z)) || (decide (z % 2 ^ mN S 8 p = 0) && mB S 10 (256 * (p + 1) + z / 2 ^ mN S 8 p))
def tTwo (S : mS) (f : mS → Nat → Nat → Bool) : mS := if cTwo S = 0 then uK (tBec (chL (tLays (uK S 0 0)) (f S (12 + mK S 16 - 2)) 256) (12 + mK S 16 - 2) (mN S 8 (12 + mK S 16 - 2) + mN S 8 (12 + mK S 16 - 2 + 1))) 16 (mK S 16 - 1) else uK S 0 1
def rTwo (S : mS) : Nat := if cTwo S = 0 then mK S 16 - 1 else 0
def rBoth (S : mS) : Nat := if cBoth S = 0 then mK S 16 - 1 else 0

def dl_X7_test : List (Nat × Instr × Nat) := [(0, .aload_n 0, 1), (1, .iload_n 1, 1), (2, .invokestatic 91, 3), (5, .ifCond .eq 13, 3), (8, .iload_n 2, 1), (9, .iconst 0, 1), (10, .bipush 99, 2), (12, .invokestatic 76, 3), (15, .ifCond .ne 7, 3), (18, .iconst 1, 1), (19, .goto 17, 3), (22, .aload_n 0, 1), (23, .invokevirtual 105, 3), (26, .bipush 8, 2), (28, .if_icmp .ne 7, 3), (31, .iconst 2, 1), (32, .goto 4, 3), (35, .iconst 0, 1), (36, .invokevirtual 84, 3), (39, .ifCond .ne 5, 3), (42, .iconst 0, 1), (43, .ireturn, 1), (44, .aload_n 0, 1), (45, .invokevirtual 109, 3), (48, .istore 4, 2), (50, .iload_n 3, 1), (51, .ifCond .eq 34, 3), (54, .aload_n 0, 1), (55, .getfield 45, 3), (58, .bipush 6, 2), (60, .iload 4, 2), (62, .imul, 1), (63, .iconst 2, 1), (64, .iload_n 1, 1), (65, .imul, 1), (66, .iadd, 1), (67, .iload_n 2, 1), (68, .bipush 50, 2), (70, .idiv, 1), (71, .iadd, 1), (72, .dup2, 1), (73, .laload, 1), (74, .lconst 1, 1), (75, .iload_n 2, 1), (76, .bipush 50, 2), (78, .irem, 1), (79, .lshl, 1), (80, .lor, 1), (81, .lastore, 1), (82, .goto 15, 3), (85, .aload_n 0, 1), (86, .getfield 42, 3), (89, .iconst 3, 1), (90, .iload 4, 2), (92, .imul, 1), (93, .iload_n 1, 1), (94, .iadd, 1), (95, .iload_n 2, 1), (96, .iastore, 1), (97, .aload_n 0, 1), (98, .getfield 98, 3), (101, .ireturn, 1)]
theorem dc_X7_test : dnL cX7_test dl_X7_test = true := by decide +kernel
theorem d_X7_test_0 : dn cX7_test 0 (.aload_n 0) 1 1 := dnAt dc_X7_test 0 rfl rfl
theorem d_X7_test_1 : dn cX7_test 1 (.iload_n 1) 1 2 := dnAt dc_X7_test 1 rfl rfl
theorem d_X7_test_2 : dn cX7_test 2 (.invokestatic 91) 3 5 := dnAt dc_X7_test 2 rfl rfl
theorem d_X7_test_5 : dn cX7_test 5 (.ifCond .eq 13) 3 8 := dnAt dc_X7_test 3 rfl rfl
theorem d_X7_test_8 : dn cX7_test 8 (.iload_n 2) 1 9 := dnAt dc_X7_test 4 rfl rfl
theorem d_X7_test_9 : dn cX7_test 9 (.iconst 0) 1 10 := dnAt dc_X7_test 5 rfl rfl
theorem d_X7_test_10 : dn cX7_test 10 (.bipush 99) 2 12 := dnAt dc_X7_test 6 rfl rfl
theorem d_X7_test_12 : dn cX7_test 12 (.invokestatic 76) 3 15 := dnAt dc_X7_test 7 rfl rfl
theorem d_X7_test_15 : dn cX7_test 15 (.ifCond .ne 7) 3 18 := dnAt dc_X7_test 8 rfl rfl
theorem d_X7_test_18 : dn cX7_test 18 (.iconst 1) 1 19 := dnAt dc_X7_test 9 rfl rfl
theorem d_X7_test_19 : dn cX7_test 19 (.goto 17) 3 22 := dnAt dc_X7_test 10 rfl rfl
theorem d_X7_test_22 : dn cX7_test 22 (.aload_n 0) 1 23 := dnAt dc_X7_test 11 rfl rfl
theorem d_X7_test_23 : dn cX7_test 23 (.invokevirtual 105) 3 26 := dnAt dc_X7_test 12 rfl rfl
theorem d_X7_test_26 : dn cX7_test 26 (.bipush 8) 2 28 := dnAt dc_X7_test 13 rfl rfl
theorem d_X7_test_28 : dn cX7_test 28 (.if_icmp .ne 7) 3 31 := dnAt dc_X7_test 14 rfl rfl
theorem d_X7_test_31 : dn cX7_test 31 (.iconst 2) 1 32 := dnAt dc_X7_test 15 rfl rfl
theorem d_X7_test_32 : dn cX7_test 32 (.goto 4) 3 35 := dnAt dc_X7_test 16 rfl rfl
theorem d_X7_test_35 : dn cX7_test 35 (.iconst 0) 1 36 := dnAt dc_X7_test 17 rfl rfl
theorem d_X7_test_36 : dn cX7_test 36 (.invokevirtual 84) 3 39 := dnAt dc_X7_test 18 rfl rfl
theorem d_X7_test_39 : dn cX7_test 39 (.ifCond .ne 5) 3 42 := dnAt dc_X7_test 19 rfl rfl
theorem d_X7_test_42 : dn cX7_test 42 (.iconst 0) 1 43 := dnAt dc_X7_test 20 rfl rfl
theorem d_X7_test_43 : dn cX7_test 43 (.ireturn) 1 44 := dnAt dc_X7_test 21 rfl rfl
theorem d_X7_test_44 : dn cX7_test 44 (.aload_n 0) 1 45 := dnAt dc_X7_test 22 rfl rfl
theorem d_X7_test_45 : dn cX7_test 45 (.invokevirtual 109) 3 48 := dnAt dc_X7_test 23 rfl rfl
theorem d_X7_test_48 : dn cX7_test 48 (.istore 4) 2 50 := dnAt dc_X7_test 24 rfl rfl
theorem d_X7_test_50 : dn cX7_test 50 (.iload_n 3) 1 51 := dnAt dc_X7_test 25 rfl rfl
theorem d_X7_test_51 : dn cX7_test 51 (.ifCond .eq 34) 3 54 := dnAt dc_X7_test 26 rfl rfl
theorem d_X7_test_54 : dn cX7_test 54 (.aload_n 0) 1 55 := dnAt dc_X7_test 27 rfl rfl
theorem d_X7_test_55 : dn cX7_test 55 (.getfield 45) 3 58 := dnAt dc_X7_test 28 rfl rfl
theorem d_X7_test_58 : dn cX7_test 58 (.bipush 6) 2 60 := dnAt dc_X7_test 29 rfl rfl
theorem d_X7_test_60 : dn cX7_test 60 (.iload 4) 2 62 := dnAt dc_X7_test 30 rfl rfl
theorem d_X7_test_62 : dn cX7_test 62 (.imul) 1 63 := dnAt dc_X7_test 31 rfl rfl
theorem d_X7_test_63 : dn cX7_test 63 (.iconst 2) 1 64 := dnAt dc_X7_test 32 rfl rfl
theorem d_X7_test_64 : dn cX7_test 64 (.iload_n 1) 1 65 := dnAt dc_X7_test 33 rfl rfl
theorem d_X7_test_65 : dn cX7_test 65 (.imul) 1 66 := dnAt dc_X7_test 34 rfl rfl
theorem d_X7_test_66 : dn cX7_test 66 (.iadd) 1 67 := dnAt dc_X7_test 35 rfl rfl
theorem d_X7_test_67 : dn cX7_test 67 (.iload_n 2) 1 68 := dnAt dc_X7_test 36 rfl rfl
theorem d_X7_test_68 : dn cX7_test 68 (.bipush 50) 2 70 := dnAt dc_X7_test 37 rfl rfl
theorem d_X7_test_70 : dn cX7_test 70 (.idiv) 1 71 := dnAt dc_X7_test 38 rfl rfl
theorem d_X7_test_71 : dn cX7_test 71 (.iadd) 1 72 := dnAt dc_X7_test 39 rfl rfl
theorem d_X7_test_72 : dn cX7_test 72 (.dup2) 1 73 := dnAt dc_X7_test 40 rfl rfl
theorem d_X7_test_73 : dn cX7_test 73 (.laload) 1 74 := dnAt dc_X7_test 41 rfl rfl
theorem d_X7_test_74 : dn cX7_test 74 (.lconst 1) 1 75 := dnAt dc_X7_test 42 rfl rfl
theorem d_X7_test_75 : dn cX7_test 75 (.iload_n 2) 1 76 := dnAt dc_X7_test 43 rfl rfl
theorem d_X7_test_76 : dn cX7_test 76 (.bipush 50) 2 78 := dnAt dc_X7_test 44 rfl rfl
theorem d_X7_test_78 : dn cX7_test 78 (.irem) 1 79 := dnAt dc_X7_test 45 rfl rfl
theorem d_X7_test_79 : dn cX7_test 79 (.lshl) 1 80 := dnAt dc_X7_test 46 rfl rfl
theorem d_X7_test_80 : dn cX7_test 80 (.lor) 1 81 := dnAt dc_X7_test 47 rfl rfl
theorem d_X7_test_81 : dn cX7_test 81 (.lastore) 1 82 := dnAt dc_X7_test 48 rfl rfl
theorem d_X7_test_82 : dn cX7_test 82 (.goto 15) 3 85 := dnAt dc_X7_test 49 rfl rfl
theorem d_X7_test_85 : dn cX7_test 85 (.aload_n 0) 1 86 := dnAt dc_X7_test 50 rfl rfl
theorem d_X7_test_86 : dn cX7_test 86 (.getfield 42) 3 89 := dnAt dc_X7_test 51 rfl rfl
theorem d_X7_test_89 : dn cX7_test 89 (.iconst 3) 1 90 := dnAt dc_X7_test 52 rfl rfl
theorem d_X7_test_90 : dn cX7_test 90 (.iload 4) 2 92 := dnAt dc_X7_test 53 rfl rfl
theorem d_X7_test_92 : dn cX7_test 92 (.imul) 1 93 := dnAt dc_X7_test 54 rfl rfl
theorem d_X7_test_93 : dn cX7_test 93 (.iload_n 1) 1 94 := dnAt dc_X7_test 55 rfl rfl
theorem d_X7_test_94 : dn cX7_test 94 (.iadd) 1 95 := dnAt dc_X7_test 56 rfl rfl
theorem d_X7_test_95 : dn cX7_test 95 (.iload_n 2) 1 96 := dnAt dc_X7_test 57 rfl rfl
theorem d_X7_test_96 : dn cX7_test 96 (.iastore) 1 97 := dnAt dc_X7_test 58 rfl rfl
theorem d_X7_test_97 : dn cX7_test 97 (.aload_n 0) 1 98 := dnAt dc_X7_test 59 rfl rfl
theorem d_X7_test_98 : dn cX7_test 98 (.getfield 98) 3 101 := dnAt dc_X7_test 60 rfl rfl
theorem d_X7_test_101 : dn cX7_test 101 (.ireturn) 1 102 := dnAt dc_X7_test 61 rfl rfl
set_option maxHeartbeats 4000000 in
set_option maxRecDepth 100000 in
theorem m_test (S : mS) (attr value : Int32) (o : Bool) (I : mInv S) : mC yX7_test cX7_test 5 (Option.some Jvm.ClassFile.FieldType.int) { frames := 2, cells := 0, slots := 0, locals := 42 } [.int attr, .int value, .int (bI o)] S (fun v9 T9 => v9 = (some (.int (nI (rPut S (cTest S attr value))))) ∧ T9 = tTest S attr value o) := by
  refine mC.of (by decide) (Nat.le_of_ble_eq_true rfl) ?_
  intro G x q h0 C A TY
  show VM G x q h0 S 0 [(0, .ref (q 0)), (1, .int attr), (2, .int value), (3, .int (bI o))] []
  refine m_aload_n C d_X7_test_0 0 rfl ?_
  have join_36 : VM G x q h0 S 36 [(0, .ref (q 0)), (1, .int attr), (2, .int value), (3, .int (bI o))] [.int (nI (cTest S attr value)), .ref (q 0)] := by
    refine m_callV C d_X7_test_36 ok_RX7_84 (m_holds S (cTest S attr value) (by unfold cTest; split <;> (try split) <;> omega)) rfl (rest := []) rfl rfl (Nat.le_of_ble_eq_true rfl) ⟨⟨by decide, by decide⟩, by decide, by decide⟩ (fun v9 T9 e9 => ?_)
    obtain ⟨rfl, e9⟩ := e9
    refine m_eq e9 ?_
    show VM G x q h0 (uK S 0 (cTest S attr value)) 39 [(0, .ref (q 0)), (1, .int attr), (2, .int value), (3, .int (bI o))] [.int (bI (decide (cTest S attr value = 0)))]
    refine mb_if_ne C d_X7_test_39 (tgt := 44) rfl (fun c_39 => ?_) (fun c_39 => ?_)
    · skip
      have c0 := of_decide_eq_true c_39
      obtain ⟨c1, c2, c3⟩ := cTest_0 c0
      obtain ⟨e1, -, e2⟩ := inR_of c1 (by decide) (by decide)
      obtain ⟨e3, -, e4⟩ := inR_of c2 (by decide) (by decide)
      have i1 := pile_le I
      rw [c0]
      refine m_lve (lv' := [(0, .ref (q 0)), (1, .int (nI (tn attr))), (2, .int (nI (tn value))), (3, .int (bI o))]) (by rw [← e1, ← e3]) ?_
      refine m_aload_n C d_X7_test_44 0 rfl ?_
      refine m_callV C d_X7_test_45 ok_RX7_109 (m_puts (uK S 0 0) (pile_le I)) rfl (rest := []) rfl rfl (Nat.le_of_ble_eq_true rfl) ⟨⟨by decide, by decide⟩, by decide, by decide⟩ (fun v9 T9 e9 => ?_)
      obtain ⟨rfl, e9⟩ := e9
      refine m_eq e9 ?_
      show VM G x q h0 (tPuts (uK S 0 0)) 48 [(0, .ref (q 0)), (1, .int (nI (tn attr))), (2, .int (nI (tn value))), (3, .int (bI o))] [.int (nI (8 * (12 + mK S 16)))]
      refine m_istore C d_X7_test_48 (lv' := [(4, .int (nI (8 * (12 + mK S 16)))), (0, .ref (q 0)), (1, .int (nI (tn attr))), (2, .int (nI (tn value))), (3, .int (bI o))]) (by decide) rfl ?_
      have join_97 : VM G x q h0 (tTest S attr value o) 97 [(0, .ref (q 0))] [] := by
        refine m_aload_n C d_X7_test_97 0 rfl ?_
        refine m_get C d_X7_test_98 fd_RX7_98 (v := .int (nI (mK (tTest S attr value o) 16))) rfl ?_
        refine m_st (st' := [.int (nI (rPut S (cTest S attr value)))]) (by rw [rPut, if_pos c0, tTest, if_pos c0]; split <;> rfl) ?_
        exact m_iret C A TY d_X7_test_101 rfl (⟨rfl, rfl⟩)
      refine m_iload_n C d_X7_test_50 4 rfl ?_
      refine mb_if_eq C d_X7_test_51 (tgt := 85) rfl (fun c_51 => ?_) (fun c_51 => ?_)
      · skip
        refine m_aload_n C d_X7_test_85 1 rfl ?_
        refine m_get C d_X7_test_86 fd_RX7_42 (v := .ref (q 11)) rfl ?_
        refine m_iconst C d_X7_test_89 (v := (nI 3)) rfl ?_
        refine m_iload C d_X7_test_90 0 rfl ?_
        refine mn_imul C d_X7_test_92 ?_
        refine m_iload_n C d_X7_test_93 2 rfl ?_
        refine mn_iadd C d_X7_test_94 ?_
        refine m_iload_n C d_X7_test_95 3 rfl ?_
        refine m_astI C d_X7_test_96 (k := 11) (v := (nI (tn value))) (by decide) rfl (by show _ < 504; omega) (by decide) ?_
        refine m_eq (S' := tTest S attr value o) (by first | rw [tTest, if_pos c0, if_pos c_51] | rw [tTest, if_pos c0, if_neg (by rw [c_51]; decide), ← e3]) ?_
        refine m_lv (lv' := [(0, .ref (q 0))]) [1] rfl ?_
        exact join_97  
      · skip
        refine m_aload_n C d_X7_test_54 1 rfl ?_
        refine m_get C d_X7_test_55 fd_RX7_45 (v := .ref (q 12)) rfl ?_
        refine m_bipush C d_X7_test_58 (v := (nI 6)) rfl ?_
        refine m_iload C d_X7_test_60 0 rfl ?_
        refine mn_imul C d_X7_test_62 ?_
        refine m_iconst C d_X7_test_63 (v := (nI 2)) rfl ?_
        refine m_iload_n C d_X7_test_64 2 rfl ?_
        refine mn_imul C d_X7_test_65 ?_
        refine mn_iadd C d_X7_test_66 ?_
        refine m_iload_n C d_X7_test_67 3 rfl ?_
        refine m_bipush C d_X7_test_68 (v := (nI 50)) rfl ?_
        refine mn_idiv C d_X7_test_70 (by omega) (by omega) (by omega) ?_
        refine mn_iadd C d_X7_test_71 ?_
        refine m_dup2 C d_X7_test_72 rfl rfl ?_
        refine m_lld C d_X7_test_73 (k := 12) (by decide) rfl (by show _ < 1008; omega) (by decide) ?_
        refine m_st (st' := [.long (lN 0), .int (nI (((6 * (8 * (12 + mK S 16))) + (2 * (tn attr))) + ((tn value) / 50))), .ref (q 12)]) (by rw [tPuts_12 (S := uK S 0 0) (by show 48 * (12 + mK S 16) ≤ _; omega) (by show _ < 48 * (12 + mK S 16) + 6; omega)]) ?_
        refine m_lconst C d_X7_test_74 (v := (lN 1)) rfl ?_
        refine m_iload_n C d_X7_test_75 3 rfl ?_
        refine m_bipush C d_X7_test_76 (v := (nI 50)) rfl ?_
        refine mn_irem C d_X7_test_78 (by omega) (by omega) (by omega) ?_
        refine mn_lshl C d_X7_test_79 (by omega) ?_
        refine mn_lor C d_X7_test_80 ?_
        refine m_st (st' := [.long (lN (2 ^ (tn value % 50))), .int (nI (((6 * (8 * (12 + mK S 16))) + (2 * (tn attr))) + ((tn value) / 50))), .ref (q 12)]) (by rw [Nat.zero_or, Nat.one_mul]) ?_
        refine m_lst C d_X7_test_81 (k := 12) (v := 2 ^ (tn value % 50)) (by decide) rfl (by show _ < 1008; omega) (by decide) ?_
        refine m_goto C d_X7_test_82 (tgt := 97) rfl ?_
        refine m_eq (S' := tTest S attr value o) (by first | rw [tTest, if_pos c0, if_pos c_51] | rw [tTest, if_pos c0, if_neg (by rw [c_51]; decide), ← e3]) ?_
        refine m_lv (lv' := [(0, .ref (q 0))]) [1] rfl ?_
        exact join_97  
    · skip
      have c1 := of_decide_eq_false c_39
      refine m_iconst C d_X7_test_42 (v := (nI 0)) rfl ?_
      refine m_st (st' := [.int (nI (rPut S (cTest S attr value)))]) (by rw [rPut, if_neg c1]) ?_
      exact m_iret C A TY d_X7_test_43 rfl (⟨rfl, by rw [tTest, if_neg c1]⟩)
  refine m_iload_n C d_X7_test_1 1 rfl ?_
  refine m_callS C d_X7_test_2 ok_RX7_91 (s_isAttribute attr) (rest := [.ref (q 0)]) rfl rfl (Nat.le_of_ble_eq_true rfl) ⟨⟨by decide, by decide⟩, by decide, by decide⟩ ?_
  show VM G x q h0 S 5 [(0, .ref (q 0)), (1, .int attr), (2, .int value), (3, .int (bI o))] [.int (bI (inR attr 0 2)), .ref (q 0)]
  refine mb_if_eq C d_X7_test_5 (tgt := 18) rfl (fun c_5 => ?_) (fun c_5 => ?_)
  · skip
    refine m_iconst C d_X7_test_18 (v := (nI 1)) rfl ?_
    refine m_goto C d_X7_test_19 (tgt := 36) rfl ?_
    refine m_st (st' := [.int (nI (cTest S attr value)), .ref (q 0)]) (by first | (rw [cTest, c_5, c_15]; first | (rw [if_pos c_28]; rfl) | (rw [if_neg c_28]; rfl)) | (rw [cTest, c_5, c_15]; rfl) | (rw [cTest, c_5]; rfl)) ?_
    exact join_36  
  · skip
    refine m_iload_n C d_X7_test_8 2 rfl ?_
    refine m_iconst C d_X7_test_9 (v := (nI 0)) rfl ?_
    refine m_bipush C d_X7_test_10 (v := (nI 99)) rfl ?_
    refine m_callS C d_X7_test_12 ok_RX7_76 (s_isIn value ((nI 0)) ((nI 99))) (rest := [.ref (q 0)]) rfl rfl (Nat.le_of_ble_eq_true rfl) ⟨⟨by decide, by decide⟩, by decide, by decide⟩ ?_
    show VM G x q h0 S 15 [(0, .ref (q 0)), (1, .int attr), (2, .int value), (3, .int (bI o))] [.int (bI (inR value 0 99)), .ref (q 0)]
    refine mb_if_ne C d_X7_test_15 (tgt := 22) rfl (fun c_15 => ?_) (fun c_15 => ?_)
    · skip
      refine m_aload_n C d_X7_test_22 0 rfl ?_
      refine m_callV C d_X7_test_23 ok_RX7_105 (m_testsInAll S (pile_le I)) rfl (rest := [.ref (q 0)]) rfl rfl (Nat.le_of_ble_eq_true rfl) ⟨⟨by decide, by decide⟩, by decide, by decide⟩ (fun v9 T9 e9 => ?_)
      obtain ⟨rfl, e9⟩ := e9
      refine m_eq e9 ?_
      show VM G x q h0 S 26 [(0, .ref (q 0)), (1, .int attr), (2, .int value), (3, .int (bI o))] [.int (nI (mTests S)), .ref (q 0)]
      refine m_bipush C d_X7_test_26 (v := (nI 8)) rfl ?_
      refine mn_icmp_ne C d_X7_test_28 (tgt := 35) rfl (by have := mTests_le I; omega) (by omega) (fun c_28 => ?_) (fun c_28 => ?_)
      · skip
        refine m_iconst C d_X7_test_35 (v := (nI 0)) rfl ?_
        refine m_st (st' := [.int (nI (cTest S attr value)), .ref (q 0)]) (by first | (rw [cTest, c_5, c_15]; first | (rw [if_pos c_28]; rfl) | (rw [if_neg c_28]; rfl)) | (rw [cTest, c_5, c_15]; rfl) | (rw [cTest, c_5]; rfl)) ?_
        exact join_36  
      · skip
        refine m_iconst C d_X7_test_31 (v := (nI 2)) rfl ?_
        refine m_goto C d_X7_test_32 (tgt := 36) rfl ?_
        refine m_st (st' := [.int (nI (cTest S attr value)), .ref (q 0)]) (by first | (rw [cTest, c_5, c_15]; first | (rw [if_pos c_28]; rfl) | (rw [if_neg c_28]; rfl)) | (rw [cTest, c_5, c_15]; rfl) | (rw [cTest, c_5]; rfl)) ?_
        exact join_36  
    · skip
      refine m_iconst C d_X7_test_18 (v := (nI 1)) rfl ?_
      refine m_goto C d_X7_test_19 (tgt := 36) rfl ?_
      refine m_st (st' := [.int (nI (cTest S attr value)), .ref (q 0)]) (by first | (rw [cTest, c_5, c_15]; first | (rw [if_pos c_28]; rfl) | (rw [if_neg c_28]; rfl)) | (rw [cTest, c_5, c_15]; rfl) | (rw [cTest, c_5]; rfl)) ?_
      exact join_36  
def dl_X7_any : List (Nat × Instr × Nat) := [(0, .aload_n 0, 1), (1, .aload_n 0, 1), (2, .invokevirtual 105, 3), (5, .bipush 8, 2), (7, .if_icmp .ne 7, 3), (10, .iconst 1, 1), (11, .goto 4, 3), (14, .iconst 0, 1), (15, .invokevirtual 84, 3), (18, .ifCond .ne 5, 3), (21, .iconst 0, 1), (22, .ireturn, 1), (23, .aload_n 0, 1), (24, .invokevirtual 109, 3), (27, .istore_n 1, 1), (28, .aload_n 0, 1), (29, .getfield 98, 3), (32, .ireturn, 1)]
theorem dc_X7_any : dnL cX7_any dl_X7_any = true := by decide +kernel
theorem d_X7_any_0 : dn cX7_any 0 (.aload_n 0) 1 1 := dnAt dc_X7_any 0 rfl rfl
theorem d_X7_any_1 : dn cX7_any 1 (.aload_n 0) 1 2 := dnAt dc_X7_any 1 rfl rfl
theorem d_X7_any_2 : dn cX7_any 2 (.invokevirtual 105) 3 5 := dnAt dc_X7_any 2 rfl rfl
theorem d_X7_any_5 : dn cX7_any 5 (.bipush 8) 2 7 := dnAt dc_X7_any 3 rfl rfl
theorem d_X7_any_7 : dn cX7_any 7 (.if_icmp .ne 7) 3 10 := dnAt dc_X7_any 4 rfl rfl
theorem d_X7_any_10 : dn cX7_any 10 (.iconst 1) 1 11 := dnAt dc_X7_any 5 rfl rfl
theorem d_X7_any_11 : dn cX7_any 11 (.goto 4) 3 14 := dnAt dc_X7_any 6 rfl rfl
theorem d_X7_any_14 : dn cX7_any 14 (.iconst 0) 1 15 := dnAt dc_X7_any 7 rfl rfl
theorem d_X7_any_15 : dn cX7_any 15 (.invokevirtual 84) 3 18 := dnAt dc_X7_any 8 rfl rfl
theorem d_X7_any_18 : dn cX7_any 18 (.ifCond .ne 5) 3 21 := dnAt dc_X7_any 9 rfl rfl
theorem d_X7_any_21 : dn cX7_any 21 (.iconst 0) 1 22 := dnAt dc_X7_any 10 rfl rfl
theorem d_X7_any_22 : dn cX7_any 22 (.ireturn) 1 23 := dnAt dc_X7_any 11 rfl rfl
theorem d_X7_any_23 : dn cX7_any 23 (.aload_n 0) 1 24 := dnAt dc_X7_any 12 rfl rfl
theorem d_X7_any_24 : dn cX7_any 24 (.invokevirtual 109) 3 27 := dnAt dc_X7_any 13 rfl rfl
theorem d_X7_any_27 : dn cX7_any 27 (.istore_n 1) 1 28 := dnAt dc_X7_any 14 rfl rfl
theorem d_X7_any_28 : dn cX7_any 28 (.aload_n 0) 1 29 := dnAt dc_X7_any 15 rfl rfl
theorem d_X7_any_29 : dn cX7_any 29 (.getfield 98) 3 32 := dnAt dc_X7_any 16 rfl rfl
theorem d_X7_any_32 : dn cX7_any 32 (.ireturn) 1 33 := dnAt dc_X7_any 17 rfl rfl
set_option maxHeartbeats 4000000 in
set_option maxRecDepth 100000 in
theorem m_any (S : mS) (I : mInv S) : mC yX7_any cX7_any 2 (Option.some Jvm.ClassFile.FieldType.int) { frames := 1, cells := 0, slots := 0, locals := 23 } [] S (fun v9 T9 => v9 = (some (.int (nI (rPut S (cAny S))))) ∧ T9 = tAny S) := by
  refine mC.of (by decide) (Nat.le_of_ble_eq_true rfl) ?_
  intro G x q h0 C A TY
  show VM G x q h0 S 0 [(0, .ref (q 0))] []
  refine m_aload_n C d_X7_any_0 0 rfl ?_
  have join_15 : VM G x q h0 S 15 [(0, .ref (q 0))] [.int (nI (cAny S)), .ref (q 0)] := by
    refine m_callV C d_X7_any_15 ok_RX7_84 (m_holds S (cAny S) (by unfold cAny; split <;> omega)) rfl (rest := []) rfl rfl (Nat.le_of_ble_eq_true rfl) ⟨⟨by decide, by decide⟩, by decide, by decide⟩ (fun v9 T9 e9 => ?_)
    obtain ⟨rfl, e9⟩ := e9
    refine m_eq e9 ?_
    show VM G x q h0 (uK S 0 (cAny S)) 18 [(0, .ref (q 0))] [.int (bI (decide (cAny S = 0)))]
    refine mb_if_ne C d_X7_any_18 (tgt := 23) rfl (fun c_18 => ?_) (fun c_18 => ?_)
    · skip
      have c0 := of_decide_eq_true c_18
      rw [c0]
      refine m_aload_n C d_X7_any_23 0 rfl ?_
      refine m_callV C d_X7_any_24 ok_RX7_109 (m_puts (uK S 0 0) (pile_le I)) rfl (rest := []) rfl rfl (Nat.le_of_ble_eq_true rfl) ⟨⟨by decide, by decide⟩, by decide, by decide⟩ (fun v9 T9 e9 => ?_)
      obtain ⟨rfl, e9⟩ := e9
      refine m_eq e9 ?_
      show VM G x q h0 (tPuts (uK S 0 0)) 27 [(0, .ref (q 0))] [.int (nI (8 * (12 + mK S 16)))]
      refine m_istore_n C d_X7_any_27 (lv' := [(1, .int (nI (8 * (12 + mK S 16)))), (0, .ref (q 0))]) (by decide) rfl ?_
      refine m_aload_n C d_X7_any_28 1 rfl ?_
      refine m_get C d_X7_any_29 fd_RX7_98 (v := .int (nI (mK (tPuts (uK S 0 0)) 16))) rfl ?_
      refine m_st (st' := [.int (nI (rPut S (cAny S)))]) (by rw [rPut, if_pos c0]; rfl) ?_
      exact m_iret C A TY d_X7_any_32 rfl (⟨rfl, by rw [tAny, if_pos c0]⟩)
    · skip
      have c1 := of_decide_eq_false c_18
      have c2 : cAny S = 1 := by unfold cAny at c1 ⊢; split at c1 <;> first | omega | (rw [if_pos (by assumption)])
      rw [c2]
      refine m_iconst C d_X7_any_21 (v := (nI 0)) rfl ?_
      refine m_st (st' := [.int (nI (rPut S (cAny S)))]) (by rw [rPut, if_neg c1]) ?_
      exact m_iret C A TY d_X7_any_22 rfl (⟨rfl, by rw [tAny, if_neg c1]⟩)
  refine m_aload_n C d_X7_any_1 0 rfl ?_
  refine m_callV C d_X7_any_2 ok_RX7_105 (m_testsInAll S (pile_le I)) rfl (rest := [.ref (q 0)]) rfl rfl (Nat.le_of_ble_eq_true rfl) ⟨⟨by decide, by decide⟩, by decide, by decide⟩ (fun v9 T9 e9 => ?_)
  obtain ⟨rfl, e9⟩ := e9
  refine m_eq e9 ?_
  show VM G x q h0 S 5 [(0, .ref (q 0))] [.int (nI (mTests S)), .ref (q 0)]
  refine m_bipush C d_X7_any_5 (v := (nI 8)) rfl ?_
  refine mn_icmp_ne C d_X7_any_7 (tgt := 14) rfl (by have := mTests_le I; omega) (by omega) (fun c_7 => ?_) (fun c_7 => ?_)
  · skip
    refine m_iconst C d_X7_any_14 (v := (nI 0)) rfl ?_
    refine m_st (st' := [.int (nI (cAny S)), .ref (q 0)]) (by first | rw [cAny, if_pos c_7] | rw [cAny, if_neg c_7]) ?_
    exact join_15  
  · skip
    refine m_iconst C d_X7_any_10 (v := (nI 1)) rfl ?_
    refine m_goto C d_X7_any_11 (tgt := 15) rfl ?_
    refine m_st (st' := [.int (nI (cAny S)), .ref (q 0)]) (by first | rw [cAny, if_pos c_7] | rw [cAny, if_neg c_7]) ?_
    exact join_15  
def dl_X7_same : List (Nat × Instr × Nat) := [(0, .aload_n 0, 1), (1, .iload_n 1, 1), (2, .invokestatic 91, 3), (5, .ifCond .eq 10, 3), (8, .iload_n 2, 1), (9, .invokestatic 112, 3), (12, .ifCond .ne 7, 3), (15, .iconst 1, 1), (16, .goto 17, 3), (19, .aload_n 0, 1), (20, .invokevirtual 105, 3), (23, .bipush 8, 2), (25, .if_icmp .ne 7, 3), (28, .iconst 2, 1), (29, .goto 4, 3), (32, .iconst 0, 1), (33, .invokevirtual 84, 3), (36, .ifCond .ne 5, 3), (39, .iconst 0, 1), (40, .ireturn, 1), (41, .aload_n 0, 1), (42, .invokevirtual 109, 3), (45, .istore_n 3, 1), (46, .aload_n 0, 1), (47, .getfield 51, 3), (50, .iload_n 3, 1), (51, .iconst 1, 1), (52, .iconst 3, 1), (53, .iload_n 2, 1), (54, .imul, 1), (55, .iload_n 1, 1), (56, .iadd, 1), (57, .ishl, 1), (58, .iastore, 1), (59, .aload_n 0, 1), (60, .getfield 98, 3), (63, .ireturn, 1)]
theorem dc_X7_same : dnL cX7_same dl_X7_same = true := by decide +kernel
theorem d_X7_same_0 : dn cX7_same 0 (.aload_n 0) 1 1 := dnAt dc_X7_same 0 rfl rfl
theorem d_X7_same_1 : dn cX7_same 1 (.iload_n 1) 1 2 := dnAt dc_X7_same 1 rfl rfl
theorem d_X7_same_2 : dn cX7_same 2 (.invokestatic 91) 3 5 := dnAt dc_X7_same 2 rfl rfl
theorem d_X7_same_5 : dn cX7_same 5 (.ifCond .eq 10) 3 8 := dnAt dc_X7_same 3 rfl rfl
theorem d_X7_same_8 : dn cX7_same 8 (.iload_n 2) 1 9 := dnAt dc_X7_same 4 rfl rfl
theorem d_X7_same_9 : dn cX7_same 9 (.invokestatic 112) 3 12 := dnAt dc_X7_same 5 rfl rfl
theorem d_X7_same_12 : dn cX7_same 12 (.ifCond .ne 7) 3 15 := dnAt dc_X7_same 6 rfl rfl
theorem d_X7_same_15 : dn cX7_same 15 (.iconst 1) 1 16 := dnAt dc_X7_same 7 rfl rfl
theorem d_X7_same_16 : dn cX7_same 16 (.goto 17) 3 19 := dnAt dc_X7_same 8 rfl rfl
theorem d_X7_same_19 : dn cX7_same 19 (.aload_n 0) 1 20 := dnAt dc_X7_same 9 rfl rfl
theorem d_X7_same_20 : dn cX7_same 20 (.invokevirtual 105) 3 23 := dnAt dc_X7_same 10 rfl rfl
theorem d_X7_same_23 : dn cX7_same 23 (.bipush 8) 2 25 := dnAt dc_X7_same 11 rfl rfl
theorem d_X7_same_25 : dn cX7_same 25 (.if_icmp .ne 7) 3 28 := dnAt dc_X7_same 12 rfl rfl
theorem d_X7_same_28 : dn cX7_same 28 (.iconst 2) 1 29 := dnAt dc_X7_same 13 rfl rfl
theorem d_X7_same_29 : dn cX7_same 29 (.goto 4) 3 32 := dnAt dc_X7_same 14 rfl rfl
theorem d_X7_same_32 : dn cX7_same 32 (.iconst 0) 1 33 := dnAt dc_X7_same 15 rfl rfl
theorem d_X7_same_33 : dn cX7_same 33 (.invokevirtual 84) 3 36 := dnAt dc_X7_same 16 rfl rfl
theorem d_X7_same_36 : dn cX7_same 36 (.ifCond .ne 5) 3 39 := dnAt dc_X7_same 17 rfl rfl
theorem d_X7_same_39 : dn cX7_same 39 (.iconst 0) 1 40 := dnAt dc_X7_same 18 rfl rfl
theorem d_X7_same_40 : dn cX7_same 40 (.ireturn) 1 41 := dnAt dc_X7_same 19 rfl rfl
theorem d_X7_same_41 : dn cX7_same 41 (.aload_n 0) 1 42 := dnAt dc_X7_same 20 rfl rfl
theorem d_X7_same_42 : dn cX7_same 42 (.invokevirtual 109) 3 45 := dnAt dc_X7_same 21 rfl rfl
theorem d_X7_same_45 : dn cX7_same 45 (.istore_n 3) 1 46 := dnAt dc_X7_same 22 rfl rfl
theorem d_X7_same_46 : dn cX7_same 46 (.aload_n 0) 1 47 := dnAt dc_X7_same 23 rfl rfl
theorem d_X7_same_47 : dn cX7_same 47 (.getfield 51) 3 50 := dnAt dc_X7_same 24 rfl rfl
theorem d_X7_same_50 : dn cX7_same 50 (.iload_n 3) 1 51 := dnAt dc_X7_same 25 rfl rfl
theorem d_X7_same_51 : dn cX7_same 51 (.iconst 1) 1 52 := dnAt dc_X7_same 26 rfl rfl
theorem d_X7_same_52 : dn cX7_same 52 (.iconst 3) 1 53 := dnAt dc_X7_same 27 rfl rfl
theorem d_X7_same_53 : dn cX7_same 53 (.iload_n 2) 1 54 := dnAt dc_X7_same 28 rfl rfl
theorem d_X7_same_54 : dn cX7_same 54 (.imul) 1 55 := dnAt dc_X7_same 29 rfl rfl
theorem d_X7_same_55 : dn cX7_same 55 (.iload_n 1) 1 56 := dnAt dc_X7_same 30 rfl rfl
theorem d_X7_same_56 : dn cX7_same 56 (.iadd) 1 57 := dnAt dc_X7_same 31 rfl rfl
theorem d_X7_same_57 : dn cX7_same 57 (.ishl) 1 58 := dnAt dc_X7_same 32 rfl rfl
theorem d_X7_same_58 : dn cX7_same 58 (.iastore) 1 59 := dnAt dc_X7_same 33 rfl rfl
theorem d_X7_same_59 : dn cX7_same 59 (.aload_n 0) 1 60 := dnAt dc_X7_same 34 rfl rfl
theorem d_X7_same_60 : dn cX7_same 60 (.getfield 98) 3 63 := dnAt dc_X7_same 35 rfl rfl
theorem d_X7_same_63 : dn cX7_same 63 (.ireturn) 1 64 := dnAt dc_X7_same 36 rfl rfl
set_option maxHeartbeats 4000000 in
set_option maxRecDepth 100000 in
theorem m_same (S : mS) (attr label : Int32) (I : mInv S) : mC yX7_same cX7_same 4 (Option.some Jvm.ClassFile.FieldType.int) { frames := 2, cells := 0, slots := 0, locals := 42 } [.int attr, .int label] S (fun v9 T9 => v9 = (some (.int (nI (rPut S (cSame S attr label))))) ∧ T9 = tSame S attr label) := by
  refine mC.of (by decide) (Nat.le_of_ble_eq_true rfl) ?_
  intro G x q h0 C A TY
  show VM G x q h0 S 0 [(0, .ref (q 0)), (1, .int attr), (2, .int label)] []
  refine m_aload_n C d_X7_same_0 0 rfl ?_
  have join_33 : VM G x q h0 S 33 [(0, .ref (q 0)), (1, .int attr), (2, .int label)] [.int (nI (cSame S attr label)), .ref (q 0)] := by
    refine m_callV C d_X7_same_33 ok_RX7_84 (m_holds S (cSame S attr label) (by unfold cSame; split <;> (try split) <;> omega)) rfl (rest := []) rfl rfl (Nat.le_of_ble_eq_true rfl) ⟨⟨by decide, by decide⟩, by decide, by decide⟩ (fun v9 T9 e9 => ?_)
    obtain ⟨rfl, e9⟩ := e9
    refine m_eq e9 ?_
    show VM G x q h0 (uK S 0 (cSame S attr label)) 36 [(0, .ref (q 0)), (1, .int attr), (2, .int label)] [.int (bI (decide (cSame S attr label = 0)))]
    refine mb_if_ne C d_X7_same_36 (tgt := 41) rfl (fun c_36 => ?_) (fun c_36 => ?_)
    · skip
      have c0 := of_decide_eq_true c_36
      obtain ⟨c1, c2, c3⟩ := cSame_0 c0
      obtain ⟨e1, -, e2⟩ := inR_of c1 (by decide) (by decide)
      obtain ⟨e3, -, e4⟩ := inR_of c2 (by decide) (by decide)
      have i1 := pile_le I
      rw [c0]
      refine m_lve (lv' := [(0, .ref (q 0)), (1, .int (nI (tn attr))), (2, .int (nI (tn label)))]) (by rw [← e1, ← e3]) ?_
      refine m_aload_n C d_X7_same_41 0 rfl ?_
      refine m_callV C d_X7_same_42 ok_RX7_109 (m_puts (uK S 0 0) (pile_le I)) rfl (rest := []) rfl rfl (Nat.le_of_ble_eq_true rfl) ⟨⟨by decide, by decide⟩, by decide, by decide⟩ (fun v9 T9 e9 => ?_)
      obtain ⟨rfl, e9⟩ := e9
      refine m_eq e9 ?_
      show VM G x q h0 (tPuts (uK S 0 0)) 45 [(0, .ref (q 0)), (1, .int (nI (tn attr))), (2, .int (nI (tn label)))] [.int (nI (8 * (12 + mK S 16)))]
      refine m_istore_n C d_X7_same_45 (lv' := [(3, .int (nI (8 * (12 + mK S 16)))), (0, .ref (q 0)), (1, .int (nI (tn attr))), (2, .int (nI (tn label)))]) (by decide) rfl ?_
      refine m_aload_n C d_X7_same_46 1 rfl ?_
      refine m_get C d_X7_same_47 fd_RX7_51 (v := .ref (q 14)) rfl ?_
      refine m_iload_n C d_X7_same_50 0 rfl ?_
      refine m_iconst C d_X7_same_51 (v := (nI 1)) rfl ?_
      refine m_iconst C d_X7_same_52 (v := (nI 3)) rfl ?_
      refine m_iload_n C d_X7_same_53 3 rfl ?_
      refine mn_imul C d_X7_same_54 ?_
      refine m_iload_n C d_X7_same_55 2 rfl ?_
      refine mn_iadd C d_X7_same_56 ?_
      refine mn_ishl C d_X7_same_57 (by omega) ?_
      refine m_st (st' := [.int (nI (2 ^ (3 * tn label + tn attr))), .int (nI (8 * (12 + mK S 16))), .ref (q 14)]) (by rw [Nat.one_mul]) ?_
      refine m_ast C d_X7_same_58 (k := 14) (v := 2 ^ (3 * tn label + tn attr)) (by decide) rfl (by show _ < 168; omega) (by decide) ?_
      refine m_aload_n C d_X7_same_59 1 rfl ?_
      refine m_get C d_X7_same_60 fd_RX7_98 (v := .int (nI (mK (uN (tPuts (uK S 0 0)) 14 (8 * (12 + mK S 16)) (2 ^ (3 * tn label + tn attr))) 16))) rfl ?_
      refine m_st (st' := [.int (nI (mK (tPuts (uK S 0 0)) 16))]) rfl ?_
      refine m_st (st' := [.int (nI (rPut S (cSame S attr label)))]) (by rw [rPut, if_pos c0]; rfl) ?_
      exact m_iret C A TY d_X7_same_63 rfl (⟨rfl, by rw [tSame, if_pos c0]⟩)
    · skip
      have c1 := of_decide_eq_false c_36
      refine m_iconst C d_X7_same_39 (v := (nI 0)) rfl ?_
      refine m_st (st' := [.int (nI (rPut S (cSame S attr label)))]) (by rw [rPut, if_neg c1]) ?_
      exact m_iret C A TY d_X7_same_40 rfl (⟨rfl, by rw [tSame, if_neg c1]⟩)
  refine m_iload_n C d_X7_same_1 1 rfl ?_
  refine m_callS C d_X7_same_2 ok_RX7_91 (s_isAttribute attr) (rest := [.ref (q 0)]) rfl rfl (Nat.le_of_ble_eq_true rfl) ⟨⟨by decide, by decide⟩, by decide, by decide⟩ ?_
  show VM G x q h0 S 5 [(0, .ref (q 0)), (1, .int attr), (2, .int label)] [.int (bI (inR attr 0 2)), .ref (q 0)]
  refine mb_if_eq C d_X7_same_5 (tgt := 15) rfl (fun c_5 => ?_) (fun c_5 => ?_)
  · skip
    refine m_iconst C d_X7_same_15 (v := (nI 1)) rfl ?_
    refine m_goto C d_X7_same_16 (tgt := 33) rfl ?_
    refine m_st (st' := [.int (nI (cSame S attr label)), .ref (q 0)]) (by first | (rw [cSame, c_5, c_12]; first | (rw [if_pos c_25]; rfl) | (rw [if_neg c_25]; rfl)) | (rw [cSame, c_5, c_12]; rfl) | (rw [cSame, c_5]; rfl)) ?_
    exact join_33  
  · skip
    refine m_iload_n C d_X7_same_8 2 rfl ?_
    refine m_callS C d_X7_same_9 ok_RX7_112 (s_isLabel label) (rest := [.ref (q 0)]) rfl rfl (Nat.le_of_ble_eq_true rfl) ⟨⟨by decide, by decide⟩, by decide, by decide⟩ ?_
    show VM G x q h0 S 12 [(0, .ref (q 0)), (1, .int attr), (2, .int label)] [.int (bI (inR label 0 2)), .ref (q 0)]
    refine mb_if_ne C d_X7_same_12 (tgt := 19) rfl (fun c_12 => ?_) (fun c_12 => ?_)
    · skip
      refine m_aload_n C d_X7_same_19 0 rfl ?_
      refine m_callV C d_X7_same_20 ok_RX7_105 (m_testsInAll S (pile_le I)) rfl (rest := [.ref (q 0)]) rfl rfl (Nat.le_of_ble_eq_true rfl) ⟨⟨by decide, by decide⟩, by decide, by decide⟩ (fun v9 T9 e9 => ?_)
      obtain ⟨rfl, e9⟩ := e9
      refine m_eq e9 ?_
      show VM G x q h0 S 23 [(0, .ref (q 0)), (1, .int attr), (2, .int label)] [.int (nI (mTests S)), .ref (q 0)]
      refine m_bipush C d_X7_same_23 (v := (nI 8)) rfl ?_
      refine mn_icmp_ne C d_X7_same_25 (tgt := 32) rfl (by have := mTests_le I; omega) (by omega) (fun c_25 => ?_) (fun c_25 => ?_)
      · skip
        refine m_iconst C d_X7_same_32 (v := (nI 0)) rfl ?_
        refine m_st (st' := [.int (nI (cSame S attr label)), .ref (q 0)]) (by first | (rw [cSame, c_5, c_12]; first | (rw [if_pos c_25]; rfl) | (rw [if_neg c_25]; rfl)) | (rw [cSame, c_5, c_12]; rfl) | (rw [cSame, c_5]; rfl)) ?_
        exact join_33  
      · skip
        refine m_iconst C d_X7_same_28 (v := (nI 2)) rfl ?_
        refine m_goto C d_X7_same_29 (tgt := 33) rfl ?_
        refine m_st (st' := [.int (nI (cSame S attr label)), .ref (q 0)]) (by first | (rw [cSame, c_5, c_12]; first | (rw [if_pos c_25]; rfl) | (rw [if_neg c_25]; rfl)) | (rw [cSame, c_5, c_12]; rfl) | (rw [cSame, c_5]; rfl)) ?_
        exact join_33  
    · skip
      refine m_iconst C d_X7_same_15 (v := (nI 1)) rfl ?_
      refine m_goto C d_X7_same_16 (tgt := 33) rfl ?_
      refine m_st (st' := [.int (nI (cSame S attr label)), .ref (q 0)]) (by first | (rw [cSame, c_5, c_12]; first | (rw [if_pos c_25]; rfl) | (rw [if_neg c_25]; rfl)) | (rw [cSame, c_5, c_12]; rfl) | (rw [cSame, c_5]; rfl)) ?_
      exact join_33  
def dl_X7_label : List (Nat × Instr × Nat) := [(0, .aload_n 0, 1), (1, .getfield 98, 3), (4, .ifCond .le 24, 3), (7, .aload_n 0, 1), (8, .getfield 36, 3), (11, .bipush 12, 2), (13, .aload_n 0, 1), (14, .getfield 98, 3), (17, .iadd, 1), (18, .iconst 1, 1), (19, .isub, 1), (20, .baload, 1), (21, .ifCond .eq 7, 3), (24, .iconst 1, 1), (25, .goto 4, 3), (28, .iconst 0, 1), (29, .istore_n 2, 1), (30, .aload_n 0, 1), (31, .iload_n 1, 1), (32, .invokestatic 112, 3), (35, .ifCond .ne 7, 3), (38, .iconst 1, 1), (39, .goto 12, 3), (42, .iload_n 2, 1), (43, .ifCond .eq 7, 3), (46, .iconst 0, 1), (47, .goto 4, 3), (50, .iconst 2, 1), (51, .invokevirtual 84, 3), (54, .ifCond .eq 26, 3), (57, .aload_n 0, 1), (58, .getfield 48, 3), (61, .bipush 8, 2), (63, .bipush 12, 2), (65, .aload_n 0, 1), (66, .getfield 98, 3), (69, .iadd, 1), (70, .iconst 1, 1), (71, .isub, 1), (72, .imul, 1), (73, .dup2, 1), (74, .iaload, 1), (75, .iconst 1, 1), (76, .iload_n 1, 1), (77, .ishl, 1), (78, .ior, 1), (79, .iastore, 1), (80, .return_, 1)]
theorem dc_X7_label : dnL cX7_label dl_X7_label = true := by decide +kernel
theorem d_X7_label_0 : dn cX7_label 0 (.aload_n 0) 1 1 := dnAt dc_X7_label 0 rfl rfl
theorem d_X7_label_1 : dn cX7_label 1 (.getfield 98) 3 4 := dnAt dc_X7_label 1 rfl rfl
theorem d_X7_label_4 : dn cX7_label 4 (.ifCond .le 24) 3 7 := dnAt dc_X7_label 2 rfl rfl
theorem d_X7_label_7 : dn cX7_label 7 (.aload_n 0) 1 8 := dnAt dc_X7_label 3 rfl rfl
theorem d_X7_label_8 : dn cX7_label 8 (.getfield 36) 3 11 := dnAt dc_X7_label 4 rfl rfl
theorem d_X7_label_11 : dn cX7_label 11 (.bipush 12) 2 13 := dnAt dc_X7_label 5 rfl rfl
theorem d_X7_label_13 : dn cX7_label 13 (.aload_n 0) 1 14 := dnAt dc_X7_label 6 rfl rfl
theorem d_X7_label_14 : dn cX7_label 14 (.getfield 98) 3 17 := dnAt dc_X7_label 7 rfl rfl
theorem d_X7_label_17 : dn cX7_label 17 (.iadd) 1 18 := dnAt dc_X7_label 8 rfl rfl
theorem d_X7_label_18 : dn cX7_label 18 (.iconst 1) 1 19 := dnAt dc_X7_label 9 rfl rfl
theorem d_X7_label_19 : dn cX7_label 19 (.isub) 1 20 := dnAt dc_X7_label 10 rfl rfl
theorem d_X7_label_20 : dn cX7_label 20 (.baload) 1 21 := dnAt dc_X7_label 11 rfl rfl
theorem d_X7_label_21 : dn cX7_label 21 (.ifCond .eq 7) 3 24 := dnAt dc_X7_label 12 rfl rfl
theorem d_X7_label_24 : dn cX7_label 24 (.iconst 1) 1 25 := dnAt dc_X7_label 13 rfl rfl
theorem d_X7_label_25 : dn cX7_label 25 (.goto 4) 3 28 := dnAt dc_X7_label 14 rfl rfl
theorem d_X7_label_28 : dn cX7_label 28 (.iconst 0) 1 29 := dnAt dc_X7_label 15 rfl rfl
theorem d_X7_label_29 : dn cX7_label 29 (.istore_n 2) 1 30 := dnAt dc_X7_label 16 rfl rfl
theorem d_X7_label_30 : dn cX7_label 30 (.aload_n 0) 1 31 := dnAt dc_X7_label 17 rfl rfl
theorem d_X7_label_31 : dn cX7_label 31 (.iload_n 1) 1 32 := dnAt dc_X7_label 18 rfl rfl
theorem d_X7_label_32 : dn cX7_label 32 (.invokestatic 112) 3 35 := dnAt dc_X7_label 19 rfl rfl
theorem d_X7_label_35 : dn cX7_label 35 (.ifCond .ne 7) 3 38 := dnAt dc_X7_label 20 rfl rfl
theorem d_X7_label_38 : dn cX7_label 38 (.iconst 1) 1 39 := dnAt dc_X7_label 21 rfl rfl
theorem d_X7_label_39 : dn cX7_label 39 (.goto 12) 3 42 := dnAt dc_X7_label 22 rfl rfl
theorem d_X7_label_42 : dn cX7_label 42 (.iload_n 2) 1 43 := dnAt dc_X7_label 23 rfl rfl
theorem d_X7_label_43 : dn cX7_label 43 (.ifCond .eq 7) 3 46 := dnAt dc_X7_label 24 rfl rfl
theorem d_X7_label_46 : dn cX7_label 46 (.iconst 0) 1 47 := dnAt dc_X7_label 25 rfl rfl
theorem d_X7_label_47 : dn cX7_label 47 (.goto 4) 3 50 := dnAt dc_X7_label 26 rfl rfl
theorem d_X7_label_50 : dn cX7_label 50 (.iconst 2) 1 51 := dnAt dc_X7_label 27 rfl rfl
theorem d_X7_label_51 : dn cX7_label 51 (.invokevirtual 84) 3 54 := dnAt dc_X7_label 28 rfl rfl
theorem d_X7_label_54 : dn cX7_label 54 (.ifCond .eq 26) 3 57 := dnAt dc_X7_label 29 rfl rfl
theorem d_X7_label_57 : dn cX7_label 57 (.aload_n 0) 1 58 := dnAt dc_X7_label 30 rfl rfl
theorem d_X7_label_58 : dn cX7_label 58 (.getfield 48) 3 61 := dnAt dc_X7_label 31 rfl rfl
theorem d_X7_label_61 : dn cX7_label 61 (.bipush 8) 2 63 := dnAt dc_X7_label 32 rfl rfl
theorem d_X7_label_63 : dn cX7_label 63 (.bipush 12) 2 65 := dnAt dc_X7_label 33 rfl rfl
theorem d_X7_label_65 : dn cX7_label 65 (.aload_n 0) 1 66 := dnAt dc_X7_label 34 rfl rfl
theorem d_X7_label_66 : dn cX7_label 66 (.getfield 98) 3 69 := dnAt dc_X7_label 35 rfl rfl
theorem d_X7_label_69 : dn cX7_label 69 (.iadd) 1 70 := dnAt dc_X7_label 36 rfl rfl
theorem d_X7_label_70 : dn cX7_label 70 (.iconst 1) 1 71 := dnAt dc_X7_label 37 rfl rfl
theorem d_X7_label_71 : dn cX7_label 71 (.isub) 1 72 := dnAt dc_X7_label 38 rfl rfl
theorem d_X7_label_72 : dn cX7_label 72 (.imul) 1 73 := dnAt dc_X7_label 39 rfl rfl
theorem d_X7_label_73 : dn cX7_label 73 (.dup2) 1 74 := dnAt dc_X7_label 40 rfl rfl
theorem d_X7_label_74 : dn cX7_label 74 (.iaload) 1 75 := dnAt dc_X7_label 41 rfl rfl
theorem d_X7_label_75 : dn cX7_label 75 (.iconst 1) 1 76 := dnAt dc_X7_label 42 rfl rfl
theorem d_X7_label_76 : dn cX7_label 76 (.iload_n 1) 1 77 := dnAt dc_X7_label 43 rfl rfl
theorem d_X7_label_77 : dn cX7_label 77 (.ishl) 1 78 := dnAt dc_X7_label 44 rfl rfl
theorem d_X7_label_78 : dn cX7_label 78 (.ior) 1 79 := dnAt dc_X7_label 45 rfl rfl
theorem d_X7_label_79 : dn cX7_label 79 (.iastore) 1 80 := dnAt dc_X7_label 46 rfl rfl
theorem d_X7_label_80 : dn cX7_label 80 (.return_) 1 81 := dnAt dc_X7_label 47 rfl rfl
set_option maxHeartbeats 4000000 in
set_option maxRecDepth 100000 in
theorem m_label (S : mS) (label : Int32) (I : mInv S) : mC yX7_label cX7_label 3 (Option.none : Option Jvm.ClassFile.FieldType) { frames := 2, cells := 0, slots := 0, locals := 42 } [.int label] S (fun v9 T9 => v9 = none ∧ T9 = tLabel S label) := by
  refine mC.of (by decide) (Nat.le_of_ble_eq_true rfl) ?_
  intro G x q h0 C A TY
  show VM G x q h0 S 0 [(0, .ref (q 0)), (1, .int label)] []
  have join_29 : VM G x q h0 S 29 [(0, .ref (q 0)), (1, .int label)] [.int (bI (canL S))] := by
    refine m_istore_n C d_X7_label_29 (lv' := [(2, .int (bI (canL S))), (0, .ref (q 0)), (1, .int label)]) (by decide) rfl ?_
    have join_51 : VM G x q h0 S 51 [(0, .ref (q 0)), (1, .int label), (2, .int (bI (canL S)))] [.int (nI (cLabel S label)), .ref (q 0)] := by
      refine m_callV C d_X7_label_51 ok_RX7_84 (m_holds S (cLabel S label) (by unfold cLabel; split <;> (try split) <;> omega)) rfl (rest := []) rfl rfl (Nat.le_of_ble_eq_true rfl) ⟨⟨by decide, by decide⟩, by decide, by decide⟩ (fun v9 T9 e9 => ?_)
      obtain ⟨rfl, e9⟩ := e9
      refine m_eq e9 ?_
      show VM G x q h0 (uK S 0 (cLabel S label)) 54 [(0, .ref (q 0)), (1, .int label), (2, .int (bI (canL S)))] [.int (bI (decide (cLabel S label = 0)))]
      refine mb_if_eq C d_X7_label_54 (tgt := 80) rfl (fun c_54 => ?_) (fun c_54 => ?_)
      · skip
        have c1 := of_decide_eq_false c_54
        exact m_vret C A TY d_X7_label_80 (⟨rfl, by first | rw [tLabel, if_neg c1] | rw [tLabel, if_pos c0]⟩)
      · skip
        have c0 := of_decide_eq_true c_54
        obtain ⟨c1, c2⟩ := cLabel_0 c0
        obtain ⟨e1, -, e2⟩ := inR_of c1 (by decide) (by decide)
        obtain ⟨c3, c4⟩ := canL_of c2
        have i1 := pile_le I
        rw [c0]
        refine m_lve (lv' := [(0, .ref (q 0)), (1, .int (nI (tn label))), (2, .int (bI (canL S)))]) (by rw [← e1]) ?_
        refine m_aload_n C d_X7_label_57 0 rfl ?_
        refine m_get C d_X7_label_58 fd_RX7_48 (v := .ref (q 13)) rfl ?_
        refine m_bipush C d_X7_label_61 (v := (nI 8)) rfl ?_
        refine m_bipush C d_X7_label_63 (v := (nI 12)) rfl ?_
        refine m_aload_n C d_X7_label_65 0 rfl ?_
        refine m_get C d_X7_label_66 fd_RX7_98 (v := .int (nI (mK (uK S 0 0) 16))) rfl ?_
        refine m_st (st' := [.int (nI (mK S 16)), .int (nI 12), .int (nI 8), .ref (q 13)]) rfl ?_
        refine mn_iadd C d_X7_label_69 ?_
        refine m_iconst C d_X7_label_70 (v := (nI 1)) rfl ?_
        refine mn_isub C d_X7_label_71 (by omega) ?_
        refine mn_imul C d_X7_label_72 ?_
        refine m_dup2 C d_X7_label_73 rfl rfl ?_
        refine m_ald C d_X7_label_74 (k := 13) (by decide) rfl (by show _ < 168; omega) (by decide) ?_
        refine m_st (st' := [.int (nI (mN S 13 (8 * ((12 + (mK S 16)) - 1)))), .int (nI (8 * ((12 + (mK S 16)) - 1))), .ref (q 13)]) rfl ?_
        refine m_iconst C d_X7_label_75 (v := (nI 1)) rfl ?_
        refine m_iload_n C d_X7_label_76 1 rfl ?_
        refine mn_ishl C d_X7_label_77 (by omega) ?_
        refine m_st (st' := [.int (nI (2 ^ tn label)), .int (nI (mN S 13 (8 * ((12 + (mK S 16)) - 1)))), .int (nI (8 * ((12 + (mK S 16)) - 1))), .ref (q 13)]) (by rw [Nat.one_mul]) ?_
        refine mn_ior C d_X7_label_78 ?_
        refine m_ast C d_X7_label_79 (k := 13) (v := (mN S 13 (8 * ((12 + (mK S 16)) - 1))) ||| (2 ^ tn label)) (by decide) rfl (by show _ < 168; omega) (by decide) ?_
        exact m_vret C A TY d_X7_label_80 (⟨rfl, by first | rw [tLabel, if_neg c1] | rw [tLabel, if_pos c0]⟩)
    refine m_aload_n C d_X7_label_30 1 rfl ?_
    refine m_iload_n C d_X7_label_31 2 rfl ?_
    refine m_callS C d_X7_label_32 ok_RX7_112 (s_isLabel label) (rest := [.ref (q 0)]) rfl rfl (Nat.le_of_ble_eq_true rfl) ⟨⟨by decide, by decide⟩, by decide, by decide⟩ ?_
    show VM G x q h0 S 35 [(2, .int (bI (canL S))), (0, .ref (q 0)), (1, .int label)] [.int (bI (inR label 0 2)), .ref (q 0)]
    refine mb_if_ne C d_X7_label_35 (tgt := 42) rfl (fun c_35 => ?_) (fun c_35 => ?_)
    · skip
      refine m_iload_n C d_X7_label_42 0 rfl ?_
      refine mb_if_eq C d_X7_label_43 (tgt := 50) rfl (fun c_43 => ?_) (fun c_43 => ?_)
      · skip
        refine m_iconst C d_X7_label_50 (v := (nI 2)) rfl ?_
        refine m_lv (lv' := [(0, .ref (q 0)), (1, .int label), (2, .int (bI (canL S)))]) [1, 2, 0] rfl ?_
        refine m_st (st' := [.int (nI (cLabel S label)), .ref (q 0)]) (by first | (rw [cLabel, if_pos c_35]; first | rw [if_pos c_43] | rw [if_neg (by rw [c_43]; decide)]) | rw [cLabel, if_neg (by rw [c_35]; decide)]) ?_
        exact join_51  
      · skip
        refine m_iconst C d_X7_label_46 (v := (nI 0)) rfl ?_
        refine m_goto C d_X7_label_47 (tgt := 51) rfl ?_
        refine m_lv (lv' := [(0, .ref (q 0)), (1, .int label), (2, .int (bI (canL S)))]) [1, 2, 0] rfl ?_
        refine m_st (st' := [.int (nI (cLabel S label)), .ref (q 0)]) (by first | (rw [cLabel, if_pos c_35]; first | rw [if_pos c_43] | rw [if_neg (by rw [c_43]; decide)]) | rw [cLabel, if_neg (by rw [c_35]; decide)]) ?_
        exact join_51  
    · skip
      refine m_iconst C d_X7_label_38 (v := (nI 1)) rfl ?_
      refine m_goto C d_X7_label_39 (tgt := 51) rfl ?_
      refine m_lv (lv' := [(0, .ref (q 0)), (1, .int label), (2, .int (bI (canL S)))]) [1, 2, 0] rfl ?_
      refine m_st (st' := [.int (nI (cLabel S label)), .ref (q 0)]) (by first | (rw [cLabel, if_pos c_35]; first | rw [if_pos c_43] | rw [if_neg (by rw [c_43]; decide)]) | rw [cLabel, if_neg (by rw [c_35]; decide)]) ?_
      exact join_51  
  refine m_aload_n C d_X7_label_0 0 rfl ?_
  refine m_get C d_X7_label_1 fd_RX7_98 (v := .int (nI (mK S 16))) rfl ?_
  refine mn_if_le C d_X7_label_4 (tgt := 28) rfl (by have := pile_le I; omega) (fun c_4 => ?_) (fun c_4 => ?_)
  · skip
    refine m_iconst C d_X7_label_28 (v := (bI false)) rfl ?_
    refine m_st (st' := [.int (bI (canL S))]) (by first | (rw [canL, decide_eq_true c_4, c_21]; rfl) | (rw [canL, decide_eq_false (by omega)]; rfl)) ?_
    exact join_29  
  · skip
    have i1 := pile_le I
    refine m_aload_n C d_X7_label_7 0 rfl ?_
    refine m_get C d_X7_label_8 fd_RX7_36 (v := .ref (q 9)) rfl ?_
    refine m_bipush C d_X7_label_11 (v := (nI 12)) rfl ?_
    refine m_aload_n C d_X7_label_13 0 rfl ?_
    refine m_get C d_X7_label_14 fd_RX7_98 (v := .int (nI (mK S 16))) rfl ?_
    refine mn_iadd C d_X7_label_17 ?_
    refine m_iconst C d_X7_label_18 (v := (nI 1)) rfl ?_
    refine mn_isub C d_X7_label_19 (by omega) ?_
    refine m_zld C d_X7_label_20 (k := 9) (by decide) rfl (by show _ < 21; omega) (by decide) ?_
    refine mb_if_eq C d_X7_label_21 (tgt := 28) rfl (fun c_21 => ?_) (fun c_21 => ?_)
    · skip
      refine m_iconst C d_X7_label_28 (v := (bI false)) rfl ?_
      refine m_st (st' := [.int (bI (canL S))]) (by first | (rw [canL, decide_eq_true c_4, c_21]; rfl) | (rw [canL, decide_eq_false (by omega)]; rfl)) ?_
      exact join_29  
    · skip
      refine m_iconst C d_X7_label_24 (v := (bI true)) rfl ?_
      refine m_goto C d_X7_label_25 (tgt := 29) rfl ?_
      refine m_st (st' := [.int (bI (canL S))]) (by first | (rw [canL, decide_eq_true c_4, c_21]; rfl) | (rw [canL, decide_eq_false (by omega)]; rfl)) ?_
      exact join_29  
def dl_X7_both : List (Nat × Instr × Nat) := [(0, .aload_n 0, 1), (1, .getfield 98, 3), (4, .iconst 1, 1), (5, .if_icmp .le 41, 3), (8, .aload_n 0, 1), (9, .getfield 36, 3), (12, .bipush 12, 2), (14, .aload_n 0, 1), (15, .getfield 98, 3), (18, .iadd, 1), (19, .iconst 1, 1), (20, .isub, 1), (21, .baload, 1), (22, .ifCond .eq 24, 3), (25, .aload_n 0, 1), (26, .getfield 36, 3), (29, .bipush 12, 2), (31, .aload_n 0, 1), (32, .getfield 98, 3), (35, .iadd, 1), (36, .iconst 2, 1), (37, .isub, 1), (38, .baload, 1), (39, .ifCond .eq 7, 3), (42, .iconst 1, 1), (43, .goto 4, 3), (46, .iconst 0, 1), (47, .istore_n 1, 1), (48, .aload_n 0, 1), (49, .iload_n 1, 1), (50, .ifCond .eq 7, 3), (53, .iconst 0, 1), (54, .goto 4, 3), (57, .iconst 1, 1), (58, .invokevirtual 84, 3), (61, .ifCond .ne 5, 3), (64, .iconst 0, 1), (65, .ireturn, 1), (66, .bipush 8, 2), (68, .bipush 12, 2), (70, .aload_n 0, 1), (71, .getfield 98, 3), (74, .iadd, 1), (75, .iconst 2, 1), (76, .isub, 1), (77, .imul, 1), (78, .istore_n 2, 1), (79, .bipush 8, 2), (81, .bipush 12, 2), (83, .aload_n 0, 1), (84, .getfield 98, 3), (87, .iadd, 1), (88, .iconst 1, 1), (89, .isub, 1), (90, .imul, 1), (91, .istore_n 3, 1), (92, .iconst 0, 1), (93, .istore 4, 2), (95, .iload 4, 2), (97, .iconst 3, 1), (98, .if_icmp .ge 143, 3), (101, .aload_n 0, 1), (102, .getfield 42, 3), (105, .iconst 3, 1), (106, .iload_n 2, 1), (107, .imul, 1), (108, .iload 4, 2), (110, .iadd, 1), (111, .iaload, 1), (112, .istore 5, 2), (114, .aload_n 0, 1), (115, .getfield 42, 3), (118, .iconst 3, 1), (119, .iload_n 3, 1), (120, .imul, 1), (121, .iload 4, 2), (123, .iadd, 1), (124, .iaload, 1), (125, .istore 6, 2), (127, .aload_n 0, 1), (128, .getfield 42, 3), (131, .iconst 3, 1), (132, .iload_n 2, 1), (133, .imul, 1), (134, .iload 4, 2), (136, .iadd, 1), (137, .iload 5, 2), (139, .iconst (-1), 1), (140, .if_icmp .ne 8, 3), (143, .iload 6, 2), (145, .goto 23, 3), (148, .iload 6, 2), (150, .iconst (-1), 1), (151, .if_icmp .eq 10, 3), (154, .iload 6, 2), (156, .iload 5, 2), (158, .if_icmp .ne 8, 3), (161, .iload 5, 2), (163, .goto 5, 3), (166, .bipush (-2), 2), (168, .iastore, 1), (169, .aload_n 0, 1), (170, .getfield 45, 3), (173, .bipush 6, 2), (175, .iload_n 2, 1), (176, .imul, 1), (177, .iconst 2, 1), (178, .iload 4, 2), (180, .imul, 1), (181, .iadd, 1), (182, .dup2, 1), (183, .laload, 1), (184, .aload_n 0, 1), (185, .getfield 45, 3), (188, .bipush 6, 2), (190, .iload_n 3, 1), (191, .imul, 1), (192, .iconst 2, 1), (193, .iload 4, 2), (195, .imul, 1), (196, .iadd, 1), (197, .laload, 1), (198, .lor, 1), (199, .lastore, 1), (200, .aload_n 0, 1), (201, .getfield 45, 3), (204, .bipush 6, 2), (206, .iload_n 2, 1), (207, .imul, 1), (208, .iconst 2, 1), (209, .iload 4, 2), (211, .imul, 1), (212, .iadd, 1), (213, .iconst 1, 1), (214, .iadd, 1), (215, .dup2, 1), (216, .laload, 1), (217, .aload_n 0, 1), (218, .getfield 45, 3), (221, .bipush 6, 2), (223, .iload_n 3, 1), (224, .imul, 1), (225, .iconst 2, 1), (226, .iload 4, 2), (228, .imul, 1), (229, .iadd, 1), (230, .iconst 1, 1), (231, .iadd, 1), (232, .laload, 1), (233, .lor, 1), (234, .lastore, 1), (235, .iinc 4 1, 3), (238, .goto (-143), 3), (241, .aload_n 0, 1), (242, .getfield 48, 3), (245, .iload_n 2, 1), (246, .dup2, 1), (247, .iaload, 1), (248, .aload_n 0, 1), (249, .getfield 48, 3), (252, .iload_n 3, 1), (253, .iaload, 1), (254, .ior, 1), (255, .iastore, 1), (256, .aload_n 0, 1), (257, .getfield 51, 3), (260, .iload_n 2, 1), (261, .dup2, 1), (262, .iaload, 1), (263, .aload_n 0, 1), (264, .getfield 51, 3), (267, .iload_n 3, 1), (268, .iaload, 1), (269, .ior, 1), (270, .iastore, 1), (271, .aload_n 0, 1), (272, .dup, 1), (273, .getfield 98, 3), (276, .iconst 1, 1), (277, .isub, 1), (278, .putfield 98, 3), (281, .aload_n 0, 1), (282, .getfield 98, 3), (285, .ireturn, 1)]
theorem dc_X7_both : dnL cX7_both dl_X7_both = true := by decide +kernel
theorem d_X7_both_0 : dn cX7_both 0 (.aload_n 0) 1 1 := dnAt dc_X7_both 0 rfl rfl
theorem d_X7_both_1 : dn cX7_both 1 (.getfield 98) 3 4 := dnAt dc_X7_both 1 rfl rfl
theorem d_X7_both_4 : dn cX7_both 4 (.iconst 1) 1 5 := dnAt dc_X7_both 2 rfl rfl
theorem d_X7_both_5 : dn cX7_both 5 (.if_icmp .le 41) 3 8 := dnAt dc_X7_both 3 rfl rfl
theorem d_X7_both_8 : dn cX7_both 8 (.aload_n 0) 1 9 := dnAt dc_X7_both 4 rfl rfl
theorem d_X7_both_9 : dn cX7_both 9 (.getfield 36) 3 12 := dnAt dc_X7_both 5 rfl rfl
theorem d_X7_both_12 : dn cX7_both 12 (.bipush 12) 2 14 := dnAt dc_X7_both 6 rfl rfl
theorem d_X7_both_14 : dn cX7_both 14 (.aload_n 0) 1 15 := dnAt dc_X7_both 7 rfl rfl
theorem d_X7_both_15 : dn cX7_both 15 (.getfield 98) 3 18 := dnAt dc_X7_both 8 rfl rfl
theorem d_X7_both_18 : dn cX7_both 18 (.iadd) 1 19 := dnAt dc_X7_both 9 rfl rfl
theorem d_X7_both_19 : dn cX7_both 19 (.iconst 1) 1 20 := dnAt dc_X7_both 10 rfl rfl
theorem d_X7_both_20 : dn cX7_both 20 (.isub) 1 21 := dnAt dc_X7_both 11 rfl rfl
theorem d_X7_both_21 : dn cX7_both 21 (.baload) 1 22 := dnAt dc_X7_both 12 rfl rfl
theorem d_X7_both_22 : dn cX7_both 22 (.ifCond .eq 24) 3 25 := dnAt dc_X7_both 13 rfl rfl
theorem d_X7_both_25 : dn cX7_both 25 (.aload_n 0) 1 26 := dnAt dc_X7_both 14 rfl rfl
theorem d_X7_both_26 : dn cX7_both 26 (.getfield 36) 3 29 := dnAt dc_X7_both 15 rfl rfl
theorem d_X7_both_29 : dn cX7_both 29 (.bipush 12) 2 31 := dnAt dc_X7_both 16 rfl rfl
theorem d_X7_both_31 : dn cX7_both 31 (.aload_n 0) 1 32 := dnAt dc_X7_both 17 rfl rfl
theorem d_X7_both_32 : dn cX7_both 32 (.getfield 98) 3 35 := dnAt dc_X7_both 18 rfl rfl
theorem d_X7_both_35 : dn cX7_both 35 (.iadd) 1 36 := dnAt dc_X7_both 19 rfl rfl
theorem d_X7_both_36 : dn cX7_both 36 (.iconst 2) 1 37 := dnAt dc_X7_both 20 rfl rfl
theorem d_X7_both_37 : dn cX7_both 37 (.isub) 1 38 := dnAt dc_X7_both 21 rfl rfl
theorem d_X7_both_38 : dn cX7_both 38 (.baload) 1 39 := dnAt dc_X7_both 22 rfl rfl
theorem d_X7_both_39 : dn cX7_both 39 (.ifCond .eq 7) 3 42 := dnAt dc_X7_both 23 rfl rfl
theorem d_X7_both_42 : dn cX7_both 42 (.iconst 1) 1 43 := dnAt dc_X7_both 24 rfl rfl
theorem d_X7_both_43 : dn cX7_both 43 (.goto 4) 3 46 := dnAt dc_X7_both 25 rfl rfl
theorem d_X7_both_46 : dn cX7_both 46 (.iconst 0) 1 47 := dnAt dc_X7_both 26 rfl rfl
theorem d_X7_both_47 : dn cX7_both 47 (.istore_n 1) 1 48 := dnAt dc_X7_both 27 rfl rfl
theorem d_X7_both_48 : dn cX7_both 48 (.aload_n 0) 1 49 := dnAt dc_X7_both 28 rfl rfl
theorem d_X7_both_49 : dn cX7_both 49 (.iload_n 1) 1 50 := dnAt dc_X7_both 29 rfl rfl
theorem d_X7_both_50 : dn cX7_both 50 (.ifCond .eq 7) 3 53 := dnAt dc_X7_both 30 rfl rfl
theorem d_X7_both_53 : dn cX7_both 53 (.iconst 0) 1 54 := dnAt dc_X7_both 31 rfl rfl
theorem d_X7_both_54 : dn cX7_both 54 (.goto 4) 3 57 := dnAt dc_X7_both 32 rfl rfl
theorem d_X7_both_57 : dn cX7_both 57 (.iconst 1) 1 58 := dnAt dc_X7_both 33 rfl rfl
theorem d_X7_both_58 : dn cX7_both 58 (.invokevirtual 84) 3 61 := dnAt dc_X7_both 34 rfl rfl
theorem d_X7_both_61 : dn cX7_both 61 (.ifCond .ne 5) 3 64 := dnAt dc_X7_both 35 rfl rfl
theorem d_X7_both_64 : dn cX7_both 64 (.iconst 0) 1 65 := dnAt dc_X7_both 36 rfl rfl
theorem d_X7_both_65 : dn cX7_both 65 (.ireturn) 1 66 := dnAt dc_X7_both 37 rfl rfl
theorem d_X7_both_66 : dn cX7_both 66 (.bipush 8) 2 68 := dnAt dc_X7_both 38 rfl rfl
theorem d_X7_both_68 : dn cX7_both 68 (.bipush 12) 2 70 := dnAt dc_X7_both 39 rfl rfl
theorem d_X7_both_70 : dn cX7_both 70 (.aload_n 0) 1 71 := dnAt dc_X7_both 40 rfl rfl
theorem d_X7_both_71 : dn cX7_both 71 (.getfield 98) 3 74 := dnAt dc_X7_both 41 rfl rfl
theorem d_X7_both_74 : dn cX7_both 74 (.iadd) 1 75 := dnAt dc_X7_both 42 rfl rfl
theorem d_X7_both_75 : dn cX7_both 75 (.iconst 2) 1 76 := dnAt dc_X7_both 43 rfl rfl
theorem d_X7_both_76 : dn cX7_both 76 (.isub) 1 77 := dnAt dc_X7_both 44 rfl rfl
theorem d_X7_both_77 : dn cX7_both 77 (.imul) 1 78 := dnAt dc_X7_both 45 rfl rfl
theorem d_X7_both_78 : dn cX7_both 78 (.istore_n 2) 1 79 := dnAt dc_X7_both 46 rfl rfl
theorem d_X7_both_79 : dn cX7_both 79 (.bipush 8) 2 81 := dnAt dc_X7_both 47 rfl rfl
theorem d_X7_both_81 : dn cX7_both 81 (.bipush 12) 2 83 := dnAt dc_X7_both 48 rfl rfl
theorem d_X7_both_83 : dn cX7_both 83 (.aload_n 0) 1 84 := dnAt dc_X7_both 49 rfl rfl
theorem d_X7_both_84 : dn cX7_both 84 (.getfield 98) 3 87 := dnAt dc_X7_both 50 rfl rfl
theorem d_X7_both_87 : dn cX7_both 87 (.iadd) 1 88 := dnAt dc_X7_both 51 rfl rfl
theorem d_X7_both_88 : dn cX7_both 88 (.iconst 1) 1 89 := dnAt dc_X7_both 52 rfl rfl
theorem d_X7_both_89 : dn cX7_both 89 (.isub) 1 90 := dnAt dc_X7_both 53 rfl rfl
theorem d_X7_both_90 : dn cX7_both 90 (.imul) 1 91 := dnAt dc_X7_both 54 rfl rfl
theorem d_X7_both_91 : dn cX7_both 91 (.istore_n 3) 1 92 := dnAt dc_X7_both 55 rfl rfl
theorem d_X7_both_92 : dn cX7_both 92 (.iconst 0) 1 93 := dnAt dc_X7_both 56 rfl rfl
theorem d_X7_both_93 : dn cX7_both 93 (.istore 4) 2 95 := dnAt dc_X7_both 57 rfl rfl
theorem d_X7_both_95 : dn cX7_both 95 (.iload 4) 2 97 := dnAt dc_X7_both 58 rfl rfl
theorem d_X7_both_97 : dn cX7_both 97 (.iconst 3) 1 98 := dnAt dc_X7_both 59 rfl rfl
theorem d_X7_both_98 : dn cX7_both 98 (.if_icmp .ge 143) 3 101 := dnAt dc_X7_both 60 rfl rfl
theorem d_X7_both_101 : dn cX7_both 101 (.aload_n 0) 1 102 := dnAt dc_X7_both 61 rfl rfl
theorem d_X7_both_102 : dn cX7_both 102 (.getfield 42) 3 105 := dnAt dc_X7_both 62 rfl rfl
theorem d_X7_both_105 : dn cX7_both 105 (.iconst 3) 1 106 := dnAt dc_X7_both 63 rfl rfl
theorem d_X7_both_106 : dn cX7_both 106 (.iload_n 2) 1 107 := dnAt dc_X7_both 64 rfl rfl
theorem d_X7_both_107 : dn cX7_both 107 (.imul) 1 108 := dnAt dc_X7_both 65 rfl rfl
theorem d_X7_both_108 : dn cX7_both 108 (.iload 4) 2 110 := dnAt dc_X7_both 66 rfl rfl
theorem d_X7_both_110 : dn cX7_both 110 (.iadd) 1 111 := dnAt dc_X7_both 67 rfl rfl
theorem d_X7_both_111 : dn cX7_both 111 (.iaload) 1 112 := dnAt dc_X7_both 68 rfl rfl
theorem d_X7_both_112 : dn cX7_both 112 (.istore 5) 2 114 := dnAt dc_X7_both 69 rfl rfl
theorem d_X7_both_114 : dn cX7_both 114 (.aload_n 0) 1 115 := dnAt dc_X7_both 70 rfl rfl
theorem d_X7_both_115 : dn cX7_both 115 (.getfield 42) 3 118 := dnAt dc_X7_both 71 rfl rfl
theorem d_X7_both_118 : dn cX7_both 118 (.iconst 3) 1 119 := dnAt dc_X7_both 72 rfl rfl
theorem d_X7_both_119 : dn cX7_both 119 (.iload_n 3) 1 120 := dnAt dc_X7_both 73 rfl rfl
theorem d_X7_both_120 : dn cX7_both 120 (.imul) 1 121 := dnAt dc_X7_both 74 rfl rfl
theorem d_X7_both_121 : dn cX7_both 121 (.iload 4) 2 123 := dnAt dc_X7_both 75 rfl rfl
theorem d_X7_both_123 : dn cX7_both 123 (.iadd) 1 124 := dnAt dc_X7_both 76 rfl rfl
theorem d_X7_both_124 : dn cX7_both 124 (.iaload) 1 125 := dnAt dc_X7_both 77 rfl rfl
theorem d_X7_both_125 : dn cX7_both 125 (.istore 6) 2 127 := dnAt dc_X7_both 78 rfl rfl
theorem d_X7_both_127 : dn cX7_both 127 (.aload_n 0) 1 128 := dnAt dc_X7_both 79 rfl rfl
theorem d_X7_both_128 : dn cX7_both 128 (.getfield 42) 3 131 := dnAt dc_X7_both 80 rfl rfl
theorem d_X7_both_131 : dn cX7_both 131 (.iconst 3) 1 132 := dnAt dc_X7_both 81 rfl rfl
theorem d_X7_both_132 : dn cX7_both 132 (.iload_n 2) 1 133 := dnAt dc_X7_both 82 rfl rfl
theorem d_X7_both_133 : dn cX7_both 133 (.imul) 1 134 := dnAt dc_X7_both 83 rfl rfl
theorem d_X7_both_134 : dn cX7_both 134 (.iload 4) 2 136 := dnAt dc_X7_both 84 rfl rfl
theorem d_X7_both_136 : dn cX7_both 136 (.iadd) 1 137 := dnAt dc_X7_both 85 rfl rfl
theorem d_X7_both_137 : dn cX7_both 137 (.iload 5) 2 139 := dnAt dc_X7_both 86 rfl rfl
theorem d_X7_both_139 : dn cX7_both 139 (.iconst (-1)) 1 140 := dnAt dc_X7_both 87 rfl rfl
theorem d_X7_both_140 : dn cX7_both 140 (.if_icmp .ne 8) 3 143 := dnAt dc_X7_both 88 rfl rfl
theorem d_X7_both_143 : dn cX7_both 143 (.iload 6) 2 145 := dnAt dc_X7_both 89 rfl rfl
theorem d_X7_both_145 : dn cX7_both 145 (.goto 23) 3 148 := dnAt dc_X7_both 90 rfl rfl
theorem d_X7_both_148 : dn cX7_both 148 (.iload 6) 2 150 := dnAt dc_X7_both 91 rfl rfl
theorem d_X7_both_150 : dn cX7_both 150 (.iconst (-1)) 1 151 := dnAt dc_X7_both 92 rfl rfl
theorem d_X7_both_151 : dn cX7_both 151 (.if_icmp .eq 10) 3 154 := dnAt dc_X7_both 93 rfl rfl
theorem d_X7_both_154 : dn cX7_both 154 (.iload 6) 2 156 := dnAt dc_X7_both 94 rfl rfl
theorem d_X7_both_156 : dn cX7_both 156 (.iload 5) 2 158 := dnAt dc_X7_both 95 rfl rfl
theorem d_X7_both_158 : dn cX7_both 158 (.if_icmp .ne 8) 3 161 := dnAt dc_X7_both 96 rfl rfl
theorem d_X7_both_161 : dn cX7_both 161 (.iload 5) 2 163 := dnAt dc_X7_both 97 rfl rfl
theorem d_X7_both_163 : dn cX7_both 163 (.goto 5) 3 166 := dnAt dc_X7_both 98 rfl rfl
theorem d_X7_both_166 : dn cX7_both 166 (.bipush (-2)) 2 168 := dnAt dc_X7_both 99 rfl rfl
theorem d_X7_both_168 : dn cX7_both 168 (.iastore) 1 169 := dnAt dc_X7_both 100 rfl rfl
theorem d_X7_both_169 : dn cX7_both 169 (.aload_n 0) 1 170 := dnAt dc_X7_both 101 rfl rfl
theorem d_X7_both_170 : dn cX7_both 170 (.getfield 45) 3 173 := dnAt dc_X7_both 102 rfl rfl
theorem d_X7_both_173 : dn cX7_both 173 (.bipush 6) 2 175 := dnAt dc_X7_both 103 rfl rfl
theorem d_X7_both_175 : dn cX7_both 175 (.iload_n 2) 1 176 := dnAt dc_X7_both 104 rfl rfl
theorem d_X7_both_176 : dn cX7_both 176 (.imul) 1 177 := dnAt dc_X7_both 105 rfl rfl
theorem d_X7_both_177 : dn cX7_both 177 (.iconst 2) 1 178 := dnAt dc_X7_both 106 rfl rfl
theorem d_X7_both_178 : dn cX7_both 178 (.iload 4) 2 180 := dnAt dc_X7_both 107 rfl rfl
theorem d_X7_both_180 : dn cX7_both 180 (.imul) 1 181 := dnAt dc_X7_both 108 rfl rfl
theorem d_X7_both_181 : dn cX7_both 181 (.iadd) 1 182 := dnAt dc_X7_both 109 rfl rfl
theorem d_X7_both_182 : dn cX7_both 182 (.dup2) 1 183 := dnAt dc_X7_both 110 rfl rfl
theorem d_X7_both_183 : dn cX7_both 183 (.laload) 1 184 := dnAt dc_X7_both 111 rfl rfl
theorem d_X7_both_184 : dn cX7_both 184 (.aload_n 0) 1 185 := dnAt dc_X7_both 112 rfl rfl
theorem d_X7_both_185 : dn cX7_both 185 (.getfield 45) 3 188 := dnAt dc_X7_both 113 rfl rfl
theorem d_X7_both_188 : dn cX7_both 188 (.bipush 6) 2 190 := dnAt dc_X7_both 114 rfl rfl
theorem d_X7_both_190 : dn cX7_both 190 (.iload_n 3) 1 191 := dnAt dc_X7_both 115 rfl rfl
theorem d_X7_both_191 : dn cX7_both 191 (.imul) 1 192 := dnAt dc_X7_both 116 rfl rfl
theorem d_X7_both_192 : dn cX7_both 192 (.iconst 2) 1 193 := dnAt dc_X7_both 117 rfl rfl
theorem d_X7_both_193 : dn cX7_both 193 (.iload 4) 2 195 := dnAt dc_X7_both 118 rfl rfl
theorem d_X7_both_195 : dn cX7_both 195 (.imul) 1 196 := dnAt dc_X7_both 119 rfl rfl
theorem d_X7_both_196 : dn cX7_both 196 (.iadd) 1 197 := dnAt dc_X7_both 120 rfl rfl
theorem d_X7_both_197 : dn cX7_both 197 (.laload) 1 198 := dnAt dc_X7_both 121 rfl rfl
theorem d_X7_both_198 : dn cX7_both 198 (.lor) 1 199 := dnAt dc_X7_both 122 rfl rfl
theorem d_X7_both_199 : dn cX7_both 199 (.lastore) 1 200 := dnAt dc_X7_both 123 rfl rfl
theorem d_X7_both_200 : dn cX7_both 200 (.aload_n 0) 1 201 := dnAt dc_X7_both 124 rfl rfl
theorem d_X7_both_201 : dn cX7_both 201 (.getfield 45) 3 204 := dnAt dc_X7_both 125 rfl rfl
theorem d_X7_both_204 : dn cX7_both 204 (.bipush 6) 2 206 := dnAt dc_X7_both 126 rfl rfl
theorem d_X7_both_206 : dn cX7_both 206 (.iload_n 2) 1 207 := dnAt dc_X7_both 127 rfl rfl
theorem d_X7_both_207 : dn cX7_both 207 (.imul) 1 208 := dnAt dc_X7_both 128 rfl rfl
theorem d_X7_both_208 : dn cX7_both 208 (.iconst 2) 1 209 := dnAt dc_X7_both 129 rfl rfl
theorem d_X7_both_209 : dn cX7_both 209 (.iload 4) 2 211 := dnAt dc_X7_both 130 rfl rfl
theorem d_X7_both_211 : dn cX7_both 211 (.imul) 1 212 := dnAt dc_X7_both 131 rfl rfl
theorem d_X7_both_212 : dn cX7_both 212 (.iadd) 1 213 := dnAt dc_X7_both 132 rfl rfl
theorem d_X7_both_213 : dn cX7_both 213 (.iconst 1) 1 214 := dnAt dc_X7_both 133 rfl rfl
theorem d_X7_both_214 : dn cX7_both 214 (.iadd) 1 215 := dnAt dc_X7_both 134 rfl rfl
theorem d_X7_both_215 : dn cX7_both 215 (.dup2) 1 216 := dnAt dc_X7_both 135 rfl rfl
theorem d_X7_both_216 : dn cX7_both 216 (.laload) 1 217 := dnAt dc_X7_both 136 rfl rfl
theorem d_X7_both_217 : dn cX7_both 217 (.aload_n 0) 1 218 := dnAt dc_X7_both 137 rfl rfl
theorem d_X7_both_218 : dn cX7_both 218 (.getfield 45) 3 221 := dnAt dc_X7_both 138 rfl rfl
theorem d_X7_both_221 : dn cX7_both 221 (.bipush 6) 2 223 := dnAt dc_X7_both 139 rfl rfl
theorem d_X7_both_223 : dn cX7_both 223 (.iload_n 3) 1 224 := dnAt dc_X7_both 140 rfl rfl
theorem d_X7_both_224 : dn cX7_both 224 (.imul) 1 225 := dnAt dc_X7_both 141 rfl rfl
theorem d_X7_both_225 : dn cX7_both 225 (.iconst 2) 1 226 := dnAt dc_X7_both 142 rfl rfl
theorem d_X7_both_226 : dn cX7_both 226 (.iload 4) 2 228 := dnAt dc_X7_both 143 rfl rfl
theorem d_X7_both_228 : dn cX7_both 228 (.imul) 1 229 := dnAt dc_X7_both 144 rfl rfl
theorem d_X7_both_229 : dn cX7_both 229 (.iadd) 1 230 := dnAt dc_X7_both 145 rfl rfl
theorem d_X7_both_230 : dn cX7_both 230 (.iconst 1) 1 231 := dnAt dc_X7_both 146 rfl rfl
theorem d_X7_both_231 : dn cX7_both 231 (.iadd) 1 232 := dnAt dc_X7_both 147 rfl rfl
theorem d_X7_both_232 : dn cX7_both 232 (.laload) 1 233 := dnAt dc_X7_both 148 rfl rfl
theorem d_X7_both_233 : dn cX7_both 233 (.lor) 1 234 := dnAt dc_X7_both 149 rfl rfl
theorem d_X7_both_234 : dn cX7_both 234 (.lastore) 1 235 := dnAt dc_X7_both 150 rfl rfl
theorem d_X7_both_235 : dn cX7_both 235 (.iinc 4 1) 3 238 := dnAt dc_X7_both 151 rfl rfl
theorem d_X7_both_238 : dn cX7_both 238 (.goto (-143)) 3 241 := dnAt dc_X7_both 152 rfl rfl
theorem d_X7_both_241 : dn cX7_both 241 (.aload_n 0) 1 242 := dnAt dc_X7_both 153 rfl rfl
theorem d_X7_both_242 : dn cX7_both 242 (.getfield 48) 3 245 := dnAt dc_X7_both 154 rfl rfl
theorem d_X7_both_245 : dn cX7_both 245 (.iload_n 2) 1 246 := dnAt dc_X7_both 155 rfl rfl
theorem d_X7_both_246 : dn cX7_both 246 (.dup2) 1 247 := dnAt dc_X7_both 156 rfl rfl
theorem d_X7_both_247 : dn cX7_both 247 (.iaload) 1 248 := dnAt dc_X7_both 157 rfl rfl
theorem d_X7_both_248 : dn cX7_both 248 (.aload_n 0) 1 249 := dnAt dc_X7_both 158 rfl rfl
theorem d_X7_both_249 : dn cX7_both 249 (.getfield 48) 3 252 := dnAt dc_X7_both 159 rfl rfl
theorem d_X7_both_252 : dn cX7_both 252 (.iload_n 3) 1 253 := dnAt dc_X7_both 160 rfl rfl
theorem d_X7_both_253 : dn cX7_both 253 (.iaload) 1 254 := dnAt dc_X7_both 161 rfl rfl
theorem d_X7_both_254 : dn cX7_both 254 (.ior) 1 255 := dnAt dc_X7_both 162 rfl rfl
theorem d_X7_both_255 : dn cX7_both 255 (.iastore) 1 256 := dnAt dc_X7_both 163 rfl rfl
theorem d_X7_both_256 : dn cX7_both 256 (.aload_n 0) 1 257 := dnAt dc_X7_both 164 rfl rfl
theorem d_X7_both_257 : dn cX7_both 257 (.getfield 51) 3 260 := dnAt dc_X7_both 165 rfl rfl
theorem d_X7_both_260 : dn cX7_both 260 (.iload_n 2) 1 261 := dnAt dc_X7_both 166 rfl rfl
theorem d_X7_both_261 : dn cX7_both 261 (.dup2) 1 262 := dnAt dc_X7_both 167 rfl rfl
theorem d_X7_both_262 : dn cX7_both 262 (.iaload) 1 263 := dnAt dc_X7_both 168 rfl rfl
theorem d_X7_both_263 : dn cX7_both 263 (.aload_n 0) 1 264 := dnAt dc_X7_both 169 rfl rfl
theorem d_X7_both_264 : dn cX7_both 264 (.getfield 51) 3 267 := dnAt dc_X7_both 170 rfl rfl
theorem d_X7_both_267 : dn cX7_both 267 (.iload_n 3) 1 268 := dnAt dc_X7_both 171 rfl rfl
theorem d_X7_both_268 : dn cX7_both 268 (.iaload) 1 269 := dnAt dc_X7_both 172 rfl rfl
theorem d_X7_both_269 : dn cX7_both 269 (.ior) 1 270 := dnAt dc_X7_both 173 rfl rfl
theorem d_X7_both_270 : dn cX7_both 270 (.iastore) 1 271 := dnAt dc_X7_both 174 rfl rfl
theorem d_X7_both_271 : dn cX7_both 271 (.aload_n 0) 1 272 := dnAt dc_X7_both 175 rfl rfl
theorem d_X7_both_272 : dn cX7_both 272 (.dup) 1 273 := dnAt dc_X7_both 176 rfl rfl
theorem d_X7_both_273 : dn cX7_both 273 (.getfield 98) 3 276 := dnAt dc_X7_both 177 rfl rfl
theorem d_X7_both_276 : dn cX7_both 276 (.iconst 1) 1 277 := dnAt dc_X7_both 178 rfl rfl
theorem d_X7_both_277 : dn cX7_both 277 (.isub) 1 278 := dnAt dc_X7_both 179 rfl rfl
theorem d_X7_both_278 : dn cX7_both 278 (.putfield 98) 3 281 := dnAt dc_X7_both 180 rfl rfl
theorem d_X7_both_281 : dn cX7_both 281 (.aload_n 0) 1 282 := dnAt dc_X7_both 181 rfl rfl
theorem d_X7_both_282 : dn cX7_both 282 (.getfield 98) 3 285 := dnAt dc_X7_both 182 rfl rfl
theorem d_X7_both_285 : dn cX7_both 285 (.ireturn) 1 286 := dnAt dc_X7_both 183 rfl rfl
set_option maxHeartbeats 4000000 in
set_option maxRecDepth 100000 in
theorem m_both (S : mS) (I : mInv S) : mC yX7_both cX7_both 7 (Option.some Jvm.ClassFile.FieldType.int) { frames := 1, cells := 0, slots := 0, locals := 21 } [] S (fun v9 T9 => v9 = (some (.int (nI (rBoth S)))) ∧ T9 = tBoth S) := by
  refine mC.of (by decide) (Nat.le_of_ble_eq_true rfl) ?_
  intro G x q h0 C A TY
  show VM G x q h0 S 0 [(0, .ref (q 0))] []
  have join_47 : VM G x q h0 S 47 [(0, .ref (q 0))] [.int (bI (canB S))] := by
    refine m_istore_n C d_X7_both_47 (lv' := [(1, .int (bI (canB S))), (0, .ref (q 0))]) (by decide) rfl ?_
    have join_58 : VM G x q h0 S 58 [(0, .ref (q 0))] [.int (nI (cBoth S)), .ref (q 0)] := by
      refine m_callV C d_X7_both_58 ok_RX7_84 (m_holds S (cBoth S) (by unfold cBoth; split <;> omega)) rfl (rest := []) rfl rfl (Nat.le_of_ble_eq_true rfl) ⟨⟨by decide, by decide⟩, by decide, by decide⟩ (fun v9 T9 e9 => ?_)
      obtain ⟨rfl, e9⟩ := e9
      refine m_eq e9 ?_
      show VM G x q h0 (uK S 0 (cBoth S)) 61 [(0, .ref (q 0))] [.int (bI (decide (cBoth S = 0)))]
      refine mb_if_ne C d_X7_both_61 (tgt := 66) rfl (fun c_61 => ?_) (fun c_61 => ?_)
      · skip
        have c0 := of_decide_eq_true c_61
        have c1 : canB S = true := by unfold cBoth at c0; split at c0 <;> first | assumption | omega
        obtain ⟨c2, c3, c4⟩ := canB_of c1
        have i1 := pile_le I
        rw [c0]
        refine m_bipush C d_X7_both_66 (v := (nI 8)) rfl ?_
        refine m_bipush C d_X7_both_68 (v := (nI 12)) rfl ?_
        refine m_aload_n C d_X7_both_70 0 rfl ?_
        refine m_get C d_X7_both_71 fd_RX7_98 (v := .int (nI (mK (uK S 0 0) 16))) rfl ?_
        refine m_st (st' := [.int (nI (mK S 16)), .int (nI 12), .int (nI 8)]) rfl ?_
        refine mn_iadd C d_X7_both_74 ?_
        refine m_iconst C d_X7_both_75 (v := (nI 2)) rfl ?_
        refine mn_isub C d_X7_both_76 (by omega) ?_
        refine mn_imul C d_X7_both_77 ?_
        refine m_istore_n C d_X7_both_78 (lv' := [(2, .int (nI (8 * ((12 + (mK S 16)) - 2)))), (0, .ref (q 0))]) (by decide) rfl ?_
        refine m_bipush C d_X7_both_79 (v := (nI 8)) rfl ?_
        refine m_bipush C d_X7_both_81 (v := (nI 12)) rfl ?_
        refine m_aload_n C d_X7_both_83 1 rfl ?_
        refine m_get C d_X7_both_84 fd_RX7_98 (v := .int (nI (mK (uK S 0 0) 16))) rfl ?_
        refine m_st (st' := [.int (nI (mK S 16)), .int (nI 12), .int (nI 8)]) rfl ?_
        refine mn_iadd C d_X7_both_87 ?_
        refine m_iconst C d_X7_both_88 (v := (nI 1)) rfl ?_
        refine mn_isub C d_X7_both_89 (by omega) ?_
        refine mn_imul C d_X7_both_90 ?_
        refine m_istore_n C d_X7_both_91 (lv' := [(3, .int (nI (8 * ((12 + (mK S 16)) - 1)))), (2, .int (nI (8 * ((12 + (mK S 16)) - 2)))), (0, .ref (q 0))]) (by decide) rfl ?_
        refine m_iconst C d_X7_both_92 (v := (nI 0)) rfl ?_
        refine m_istore C d_X7_both_93 (lv' := [(4, .int (nI 0)), (3, .int (nI (8 * ((12 + (mK S 16)) - 1)))), (2, .int (nI (8 * ((12 + (mK S 16)) - 2)))), (0, .ref (q 0))]) (by decide) rfl ?_
        have loop_95 : ∀ (fuel : Nat) (k : Nat), (k ≤ 3) → (4 - k) < fuel → VM G x q h0 (boL (uK S 0 0) (8 * (12 + mK S 16 - 2)) (8 * (12 + mK S 16 - 1)) k) 95 [(0, .ref (q 0)), (2, .int (nI (8 * (12 + mK S 16 - 2)))), (3, .int (nI (8 * (12 + mK S 16 - 1)))), (4, .int (nI k))] [] := by
          intro fuel
          induction fuel with
          | zero => intro k hk hf9; exact absurd hf9 (Nat.not_lt_zero _)
          | succ fuel ih_95 =>
            intro k hk hf9
            refine m_iload C d_X7_both_95 3 rfl ?_
            refine m_iconst C d_X7_both_97 (v := (nI 3)) rfl ?_
            refine mn_icmp_ge C d_X7_both_98 (tgt := 241) rfl (by omega) (by omega) (fun c_98 => ?_) (fun c_98 => ?_)
            · skip
              obtain rfl : k = 3 := by omega
              refine m_aload_n C d_X7_both_241 0 rfl ?_
              refine m_get C d_X7_both_242 fd_RX7_48 (v := .ref (q 13)) rfl ?_
              refine m_iload_n C d_X7_both_245 1 rfl ?_
              refine m_dup2 C d_X7_both_246 rfl rfl ?_
              refine m_ald C d_X7_both_247 (k := 13) (by decide) rfl (by show _ < 168; omega) (by decide) ?_
              refine m_st (st' := [.int (nI (mN S 13 (8 * (12 + mK S 16 - 2)))), .int (nI (8 * (12 + mK S 16 - 2))), .ref (q 13)]) rfl ?_
              refine m_aload_n C d_X7_both_248 0 rfl ?_
              refine m_get C d_X7_both_249 fd_RX7_48 (v := .ref (q 13)) rfl ?_
              refine m_iload_n C d_X7_both_252 2 rfl ?_
              refine m_ald C d_X7_both_253 (k := 13) (by decide) rfl (by show _ < 168; omega) (by decide) ?_
              refine m_st (st' := [.int (nI (mN S 13 (8 * (12 + mK S 16 - 1)))), .int (nI (mN S 13 (8 * (12 + mK S 16 - 2)))), .int (nI (8 * (12 + mK S 16 - 2))), .ref (q 13)]) rfl ?_
              refine mn_ior C d_X7_both_254 ?_
              refine m_ast C d_X7_both_255 (k := 13) (v := (mN S 13 (8 * (12 + mK S 16 - 2))) ||| (mN S 13 (8 * (12 + mK S 16 - 1)))) (by decide) rfl (by show _ < 168; omega) (by decide) ?_
              refine m_aload_n C d_X7_both_256 0 rfl ?_
              refine m_get C d_X7_both_257 fd_RX7_51 (v := .ref (q 14)) rfl ?_
              refine m_iload_n C d_X7_both_260 1 rfl ?_
              refine m_dup2 C d_X7_both_261 rfl rfl ?_
              refine m_ald C d_X7_both_262 (k := 14) (by decide) rfl (by show _ < 168; omega) (by decide) ?_
              refine m_st (st' := [.int (nI (mN S 14 (8 * (12 + mK S 16 - 2)))), .int (nI (8 * (12 + mK S 16 - 2))), .ref (q 14)]) rfl ?_
              refine m_aload_n C d_X7_both_263 0 rfl ?_
              refine m_get C d_X7_both_264 fd_RX7_51 (v := .ref (q 14)) rfl ?_
              refine m_iload_n C d_X7_both_267 2 rfl ?_
              refine m_ald C d_X7_both_268 (k := 14) (by decide) rfl (by show _ < 168; omega) (by decide) ?_
              refine m_st (st' := [.int (nI (mN S 14 (8 * (12 + mK S 16 - 1)))), .int (nI (mN S 14 (8 * (12 + mK S 16 - 2)))), .int (nI (8 * (12 + mK S 16 - 2))), .ref (q 14)]) rfl ?_
              refine mn_ior C d_X7_both_269 ?_
              refine m_ast C d_X7_both_270 (k := 14) (v := (mN S 14 (8 * (12 + mK S 16 - 2))) ||| (mN S 14 (8 * (12 + mK S 16 - 1)))) (by decide) rfl (by show _ < 168; omega) (by decide) ?_
              refine m_aload_n C d_X7_both_271 0 rfl ?_
              refine m_dup C d_X7_both_272 rfl ?_
              refine m_get C d_X7_both_273 fd_RX7_98 (v := .int (nI (mK (uN (uN (boL (uK S 0 0) (8 * (12 + mK S 16 - 2)) (8 * (12 + mK S 16 - 1)) 3) 13 (8 * (12 + mK S 16 - 2)) ((mN S 13 (8 * (12 + mK S 16 - 2))) ||| (mN S 13 (8 * (12 + mK S 16 - 1))))) 14 (8 * (12 + mK S 16 - 2)) ((mN S 14 (8 * (12 + mK S 16 - 2))) ||| (mN S 14 (8 * (12 + mK S 16 - 1))))) 16))) rfl ?_
              refine m_st (st' := [.int (nI (mK S 16)), .ref (q 0)]) rfl ?_
              refine m_iconst C d_X7_both_276 (v := (nI 1)) rfl ?_
              refine mn_isub C d_X7_both_277 (by omega) ?_
              refine m_putK C d_X7_both_278 pf_RX7_98 (by decide) (fun _ _ => rfl) ?_
              refine m_aload_n C d_X7_both_281 0 rfl ?_
              refine m_get C d_X7_both_282 fd_RX7_98 (v := .int (nI (mK (uK (uN (uN (boL (uK S 0 0) (8 * (12 + mK S 16 - 2)) (8 * (12 + mK S 16 - 1)) 3) 13 (8 * (12 + mK S 16 - 2)) ((mN S 13 (8 * (12 + mK S 16 - 2))) ||| (mN S 13 (8 * (12 + mK S 16 - 1))))) 14 (8 * (12 + mK S 16 - 2)) ((mN S 14 (8 * (12 + mK S 16 - 2))) ||| (mN S 14 (8 * (12 + mK S 16 - 1))))) 16 ((mK S 16) - 1)) 16))) rfl ?_
              refine m_st (st' := [.int (nI ((mK S 16) - 1))]) rfl ?_
              refine m_st (st' := [.int (nI (rBoth S))]) (by rw [rBoth, if_pos c0]) ?_
              exact m_iret C A TY d_X7_both_285 rfl (⟨rfl, by rw [tBoth, if_pos c0]; rfl⟩)
            · skip
              refine m_aload_n C d_X7_both_101 0 rfl ?_
              refine m_get C d_X7_both_102 fd_RX7_42 (v := .ref (q 11)) rfl ?_
              refine m_iconst C d_X7_both_105 (v := (nI 3)) rfl ?_
              refine m_iload_n C d_X7_both_106 1 rfl ?_
              refine mn_imul C d_X7_both_107 ?_
              refine m_iload C d_X7_both_108 3 rfl ?_
              refine mn_iadd C d_X7_both_110 ?_
              refine m_aldI C d_X7_both_111 (k := 11) (by decide) rfl (by show _ < 504; omega) (by decide) ?_
              refine m_st (st' := [.int (mI S 11 (3 * (8 * (12 + mK S 16 - 2)) + k))]) (by rw [boL_rI]; rfl) ?_
              refine m_istore C d_X7_both_112 (lv' := [(5, .int (mI S 11 (3 * (8 * (12 + mK S 16 - 2)) + k))), (0, .ref (q 0)), (2, .int (nI (8 * (12 + mK S 16 - 2)))), (3, .int (nI (8 * (12 + mK S 16 - 1)))), (4, .int (nI k))]) (by decide) rfl ?_
              refine m_aload_n C d_X7_both_114 1 rfl ?_
              refine m_get C d_X7_both_115 fd_RX7_42 (v := .ref (q 11)) rfl ?_
              refine m_iconst C d_X7_both_118 (v := (nI 3)) rfl ?_
              refine m_iload_n C d_X7_both_119 3 rfl ?_
              refine mn_imul C d_X7_both_120 ?_
              refine m_iload C d_X7_both_121 4 rfl ?_
              refine mn_iadd C d_X7_both_123 ?_
              refine m_aldI C d_X7_both_124 (k := 11) (by decide) rfl (by show _ < 504; omega) (by decide) ?_
              refine m_st (st' := [.int (mI S 11 (3 * (8 * (12 + mK S 16 - 1)) + k))]) (by rw [boL_rIo (by omega) (by omega)]; rfl) ?_
              refine m_istore C d_X7_both_125 (lv' := [(6, .int (mI S 11 (3 * (8 * (12 + mK S 16 - 1)) + k))), (5, .int (mI S 11 (3 * (8 * (12 + mK S 16 - 2)) + k))), (0, .ref (q 0)), (2, .int (nI (8 * (12 + mK S 16 - 2)))), (3, .int (nI (8 * (12 + mK S 16 - 1)))), (4, .int (nI k))]) (by decide) rfl ?_
              have join_168 : VM G x q h0 (boL (uK S 0 0) (8 * (12 + mK S 16 - 2)) (8 * (12 + mK S 16 - 1)) k) 168 [(0, .ref (q 0)), (2, .int (nI (8 * (12 + mK S 16 - 2)))), (3, .int (nI (8 * (12 + mK S 16 - 1)))), (4, .int (nI k))] [.int (vJoin (mI S 11 (3 * (8 * (12 + mK S 16 - 2)) + k)) (mI S 11 (3 * (8 * (12 + mK S 16 - 1)) + k))), .int (nI (3 * (8 * (12 + mK S 16 - 2)) + k)), .ref (q 11)] := by
                refine m_astI C d_X7_both_168 (k := 11) (v := vJoin (mI S 11 (3 * (8 * (12 + mK S 16 - 2)) + k)) (mI S 11 (3 * (8 * (12 + mK S 16 - 1)) + k))) (by decide) rfl (by show _ < 504; omega) (by decide) ?_
                refine m_aload_n C d_X7_both_169 0 rfl ?_
                refine m_get C d_X7_both_170 fd_RX7_45 (v := .ref (q 12)) rfl ?_
                refine m_bipush C d_X7_both_173 (v := (nI 6)) rfl ?_
                refine m_iload_n C d_X7_both_175 1 rfl ?_
                refine mn_imul C d_X7_both_176 ?_
                refine m_iconst C d_X7_both_177 (v := (nI 2)) rfl ?_
                refine m_iload C d_X7_both_178 3 rfl ?_
                refine mn_imul C d_X7_both_180 ?_
                refine mn_iadd C d_X7_both_181 ?_
                refine m_dup2 C d_X7_both_182 rfl rfl ?_
                refine m_lld C d_X7_both_183 (k := 12) (by decide) rfl (by show _ < 1008; omega) (by decide) ?_
                refine m_st (st' := [.long (lN (mN (boL (uK S 0 0) (8 * (12 + mK S 16 - 2)) (8 * (12 + mK S 16 - 1)) k) 12 ((6 * (8 * (12 + mK S 16 - 2))) + (2 * k)))), .int (nI ((6 * (8 * (12 + mK S 16 - 2))) + (2 * k))), .ref (q 12)]) rfl ?_
                refine m_st (st' := [.long (lN (mN S 12 (6 * (8 * (12 + mK S 16 - 2)) + 2 * k))), .int (nI ((6 * (8 * (12 + mK S 16 - 2))) + (2 * k))), .ref (q 12)]) (by rw [boL_rN (by omega)]; rfl) ?_
                refine m_aload_n C d_X7_both_184 0 rfl ?_
                refine m_get C d_X7_both_185 fd_RX7_45 (v := .ref (q 12)) rfl ?_
                refine m_bipush C d_X7_both_188 (v := (nI 6)) rfl ?_
                refine m_iload_n C d_X7_both_190 2 rfl ?_
                refine mn_imul C d_X7_both_191 ?_
                refine m_iconst C d_X7_both_192 (v := (nI 2)) rfl ?_
                refine m_iload C d_X7_both_193 3 rfl ?_
                refine mn_imul C d_X7_both_195 ?_
                refine mn_iadd C d_X7_both_196 ?_
                refine m_lld C d_X7_both_197 (k := 12) (by decide) rfl (by show _ < 1008; omega) (by decide) ?_
                refine m_st (st' := [.long (lN (mN (boL (uK S 0 0) (8 * (12 + mK S 16 - 2)) (8 * (12 + mK S 16 - 1)) k) 12 ((6 * (8 * (12 + mK S 16 - 1))) + (2 * k)))), .long (lN (mN S 12 (6 * (8 * (12 + mK S 16 - 2)) + 2 * k))), .int (nI ((6 * (8 * (12 + mK S 16 - 2))) + (2 * k))), .ref (q 12)]) rfl ?_
                refine m_st (st' := [.long (lN (mN S 12 (6 * (8 * (12 + mK S 16 - 1)) + 2 * k))), .long (lN (mN S 12 (6 * (8 * (12 + mK S 16 - 2)) + 2 * k))), .int (nI ((6 * (8 * (12 + mK S 16 - 2))) + (2 * k))), .ref (q 12)]) (by rw [boL_rN (by omega)]; rfl) ?_
                refine mn_lor C d_X7_both_198 ?_
                refine m_lst C d_X7_both_199 (k := 12) (v := (mN S 12 (6 * (8 * (12 + mK S 16 - 2)) + 2 * k)) ||| (mN S 12 (6 * (8 * (12 + mK S 16 - 1)) + 2 * k))) (by decide) rfl (by show _ < 1008; omega) (by decide) ?_
                refine m_aload_n C d_X7_both_200 0 rfl ?_
                refine m_get C d_X7_both_201 fd_RX7_45 (v := .ref (q 12)) rfl ?_
                refine m_bipush C d_X7_both_204 (v := (nI 6)) rfl ?_
                refine m_iload_n C d_X7_both_206 1 rfl ?_
                refine mn_imul C d_X7_both_207 ?_
                refine m_iconst C d_X7_both_208 (v := (nI 2)) rfl ?_
                refine m_iload C d_X7_both_209 3 rfl ?_
                refine mn_imul C d_X7_both_211 ?_
                refine mn_iadd C d_X7_both_212 ?_
                refine m_iconst C d_X7_both_213 (v := (nI 1)) rfl ?_
                refine mn_iadd C d_X7_both_214 ?_
                refine m_dup2 C d_X7_both_215 rfl rfl ?_
                refine m_lld C d_X7_both_216 (k := 12) (by decide) rfl (by show _ < 1008; omega) (by decide) ?_
                refine m_st (st' := [.long (lN (mN S 12 (6 * (8 * (12 + mK S 16 - 2)) + 2 * k + 1))), .int (nI (((6 * (8 * (12 + mK S 16 - 2))) + (2 * k)) + 1)), .ref (q 12)]) (by rw [mN_uN, if_neg (by omega), mN_uI, boL_rN (by omega)]; rfl) ?_
                refine m_aload_n C d_X7_both_217 0 rfl ?_
                refine m_get C d_X7_both_218 fd_RX7_45 (v := .ref (q 12)) rfl ?_
                refine m_bipush C d_X7_both_221 (v := (nI 6)) rfl ?_
                refine m_iload_n C d_X7_both_223 2 rfl ?_
                refine mn_imul C d_X7_both_224 ?_
                refine m_iconst C d_X7_both_225 (v := (nI 2)) rfl ?_
                refine m_iload C d_X7_both_226 3 rfl ?_
                refine mn_imul C d_X7_both_228 ?_
                refine mn_iadd C d_X7_both_229 ?_
                refine m_iconst C d_X7_both_230 (v := (nI 1)) rfl ?_
                refine mn_iadd C d_X7_both_231 ?_
                refine m_lld C d_X7_both_232 (k := 12) (by decide) rfl (by show _ < 1008; omega) (by decide) ?_
                refine m_st (st' := [.long (lN (mN S 12 (6 * (8 * (12 + mK S 16 - 1)) + 2 * k + 1))), .long (lN (mN S 12 (6 * (8 * (12 + mK S 16 - 2)) + 2 * k + 1))), .int (nI (((6 * (8 * (12 + mK S 16 - 2))) + (2 * k)) + 1)), .ref (q 12)]) (by rw [mN_uN, if_neg (by omega), mN_uI, boL_rN (by omega)]; rfl) ?_
                refine mn_lor C d_X7_both_233 ?_
                refine m_lst C d_X7_both_234 (k := 12) (v := (mN S 12 (6 * (8 * (12 + mK S 16 - 2)) + 2 * k + 1)) ||| (mN S 12 (6 * (8 * (12 + mK S 16 - 1)) + 2 * k + 1))) (by decide) rfl (by show _ < 1008; omega) (by decide) ?_
                refine mn_iinc C d_X7_both_235 (lv' := [(4, .int (nI (k + 1))), (0, .ref (q 0)), (2, .int (nI (8 * (12 + mK S 16 - 2)))), (3, .int (nI (8 * (12 + mK S 16 - 1))))]) 3 rfl (nI_inc _ rfl) (by decide) rfl ?_
                refine m_goto C d_X7_both_238 (tgt := 95) rfl ?_
                refine m_eq (S' := boL (uK S 0 0) (8 * (12 + mK S 16 - 2)) (8 * (12 + mK S 16 - 1)) (k + 1)) (boL_step (S := uK S 0 0)) ?_
                refine m_lv (lv' := [(0, .ref (q 0)), (2, .int (nI (8 * (12 + mK S 16 - 2)))), (3, .int (nI (8 * (12 + mK S 16 - 1)))), (4, .int (nI (k + 1)))]) [1, 2, 3, 0] rfl ?_
                exact ih_95 (k + 1) (by omega) (by omega)
              refine m_aload_n C d_X7_both_127 2 rfl ?_
              refine m_get C d_X7_both_128 fd_RX7_42 (v := .ref (q 11)) rfl ?_
              refine m_iconst C d_X7_both_131 (v := (nI 3)) rfl ?_
              refine m_iload_n C d_X7_both_132 3 rfl ?_
              refine mn_imul C d_X7_both_133 ?_
              refine m_iload C d_X7_both_134 5 rfl ?_
              refine mn_iadd C d_X7_both_136 ?_
              refine m_iload C d_X7_both_137 1 rfl ?_
              refine m_iconst C d_X7_both_139 (v := ((-1))) rfl ?_
              refine m_icmp_ne C d_X7_both_140 (tgt := 148) rfl (fun c_140 => ?_) (fun c_140 => ?_)
              · skip
                refine m_iload C d_X7_both_148 0 rfl ?_
                refine m_iconst C d_X7_both_150 (v := ((-1))) rfl ?_
                refine m_icmp_eq C d_X7_both_151 (tgt := 161) rfl (fun c_151 => ?_) (fun c_151 => ?_)
                · skip
                  refine m_iload C d_X7_both_161 1 rfl ?_
                  refine m_goto C d_X7_both_163 (tgt := 168) rfl ?_
                  refine m_lv (lv' := [(0, .ref (q 0)), (2, .int (nI (8 * (12 + mK S 16 - 2)))), (3, .int (nI (8 * (12 + mK S 16 - 1)))), (4, .int (nI k))]) [2, 3, 4, 5] rfl ?_
                  refine m_st (st' := [.int (vJoin (mI S 11 (3 * (8 * (12 + mK S 16 - 2)) + k)) (mI S 11 (3 * (8 * (12 + mK S 16 - 1)) + k))), .int (nI (3 * (8 * (12 + mK S 16 - 2)) + k)), .ref (q 11)]) (congrArg (fun z => [Value.int z, .int (nI (3 * (8 * (12 + mK S 16 - 2)) + k)), .ref (q 11)]) (by unfold vJoin; grind)) ?_
                  exact join_168  
                · skip
                  refine m_iload C d_X7_both_154 0 rfl ?_
                  refine m_iload C d_X7_both_156 1 rfl ?_
                  refine m_icmp_ne C d_X7_both_158 (tgt := 166) rfl (fun c_158 => ?_) (fun c_158 => ?_)
                  · skip
                    refine m_bipush C d_X7_both_166 (v := ((-2))) rfl ?_
                    refine m_lv (lv' := [(0, .ref (q 0)), (2, .int (nI (8 * (12 + mK S 16 - 2)))), (3, .int (nI (8 * (12 + mK S 16 - 1)))), (4, .int (nI k))]) [2, 3, 4, 5] rfl ?_
                    refine m_st (st' := [.int (vJoin (mI S 11 (3 * (8 * (12 + mK S 16 - 2)) + k)) (mI S 11 (3 * (8 * (12 + mK S 16 - 1)) + k))), .int (nI (3 * (8 * (12 + mK S 16 - 2)) + k)), .ref (q 11)]) (congrArg (fun z => [Value.int z, .int (nI (3 * (8 * (12 + mK S 16 - 2)) + k)), .ref (q 11)]) (by unfold vJoin; grind)) ?_
                    exact join_168  
                  · skip
                    refine m_iload C d_X7_both_161 1 rfl ?_
                    refine m_goto C d_X7_both_163 (tgt := 168) rfl ?_
                    refine m_lv (lv' := [(0, .ref (q 0)), (2, .int (nI (8 * (12 + mK S 16 - 2)))), (3, .int (nI (8 * (12 + mK S 16 - 1)))), (4, .int (nI k))]) [2, 3, 4, 5] rfl ?_
                    refine m_st (st' := [.int (vJoin (mI S 11 (3 * (8 * (12 + mK S 16 - 2)) + k)) (mI S 11 (3 * (8 * (12 + mK S 16 - 1)) + k))), .int (nI (3 * (8 * (12 + mK S 16 - 2)) + k)), .ref (q 11)]) (congrArg (fun z => [Value.int z, .int (nI (3 * (8 * (12 + mK S 16 - 2)) + k)), .ref (q 11)]) (by unfold vJoin; grind)) ?_
                    exact join_168  
              · skip
                refine m_iload C d_X7_both_143 0 rfl ?_
                refine m_goto C d_X7_both_145 (tgt := 168) rfl ?_
                refine m_lv (lv' := [(0, .ref (q 0)), (2, .int (nI (8 * (12 + mK S 16 - 2)))), (3, .int (nI (8 * (12 + mK S 16 - 1)))), (4, .int (nI k))]) [2, 3, 4, 5] rfl ?_
                refine m_st (st' := [.int (vJoin (mI S 11 (3 * (8 * (12 + mK S 16 - 2)) + k)) (mI S 11 (3 * (8 * (12 + mK S 16 - 1)) + k))), .int (nI (3 * (8 * (12 + mK S 16 - 2)) + k)), .ref (q 11)]) (congrArg (fun z => [Value.int z, .int (nI (3 * (8 * (12 + mK S 16 - 2)) + k)), .ref (q 11)]) (by unfold vJoin; grind)) ?_
                exact join_168  
        refine m_eq (S' := boL (uK S 0 0) (8 * (12 + mK S 16 - 2)) (8 * (12 + mK S 16 - 1)) 0) (boL_0 _ _ _) ?_
        refine m_lv (lv' := [(0, .ref (q 0)), (2, .int (nI (8 * ((12 + (mK S 16)) - 2)))), (3, .int (nI (8 * ((12 + (mK S 16)) - 1)))), (4, .int (nI 0))]) [3, 2, 1, 0] rfl ?_
        refine m_lve (lv' := [(0, .ref (q 0)), (2, .int (nI (8 * (12 + mK S 16 - 2)))), (3, .int (nI (8 * (12 + mK S 16 - 1)))), (4, .int (nI 0))]) (rfl) ?_
        exact loop_95 _ 0 (by omega) (Nat.lt_succ_self _)
      · skip
        have c1 := of_decide_eq_false c_61
        have c2 : cBoth S = 1 := by unfold cBoth at c1 ⊢; split at c1 <;> first | omega | (rw [if_neg (by assumption)])
        rw [c2]
        refine m_iconst C d_X7_both_64 (v := (nI 0)) rfl ?_
        refine m_st (st' := [.int (nI (rBoth S))]) (by rw [rBoth, if_neg c1]) ?_
        exact m_iret C A TY d_X7_both_65 rfl (⟨rfl, by rw [tBoth, if_neg c1]⟩)
    refine m_aload_n C d_X7_both_48 1 rfl ?_
    refine m_iload_n C d_X7_both_49 0 rfl ?_
    refine mb_if_eq C d_X7_both_50 (tgt := 57) rfl (fun c_50 => ?_) (fun c_50 => ?_)
    · skip
      refine m_iconst C d_X7_both_57 (v := (nI 1)) rfl ?_
      refine m_lv (lv' := [(0, .ref (q 0))]) [1] rfl ?_
      refine m_st (st' := [.int (nI (cBoth S)), .ref (q 0)]) (by first | rw [cBoth, if_pos c_50] | rw [cBoth, if_neg (by rw [c_50]; decide)]) ?_
      exact join_58  
    · skip
      refine m_iconst C d_X7_both_53 (v := (nI 0)) rfl ?_
      refine m_goto C d_X7_both_54 (tgt := 58) rfl ?_
      refine m_lv (lv' := [(0, .ref (q 0))]) [1] rfl ?_
      refine m_st (st' := [.int (nI (cBoth S)), .ref (q 0)]) (by first | rw [cBoth, if_pos c_50] | rw [cBoth, if_neg (by rw [c_50]; decide)]) ?_
      exact join_58  
  refine m_aload_n C d_X7_both_0 0 rfl ?_
  refine m_get C d_X7_both_1 fd_RX7_98 (v := .int (nI (mK S 16))) rfl ?_
  refine m_iconst C d_X7_both_4 (v := (nI 1)) rfl ?_
  refine mn_icmp_le C d_X7_both_5 (tgt := 46) rfl (by have := pile_le I; omega) (by omega) (fun c_5 => ?_) (fun c_5 => ?_)
  · skip
    refine m_iconst C d_X7_both_46 (v := (bI false)) rfl ?_
    refine m_st (st' := [.int (bI (canB S))]) (by first | (rw [canB, decide_eq_true c_5, c_22, c_39]; rfl) | (rw [canB, decide_eq_true c_5, c_22]; rfl) | (rw [canB, decide_eq_false (by omega)]; rfl)) ?_
    exact join_47  
  · skip
    have i1 := pile_le I
    refine m_aload_n C d_X7_both_8 0 rfl ?_
    refine m_get C d_X7_both_9 fd_RX7_36 (v := .ref (q 9)) rfl ?_
    refine m_bipush C d_X7_both_12 (v := (nI 12)) rfl ?_
    refine m_aload_n C d_X7_both_14 0 rfl ?_
    refine m_get C d_X7_both_15 fd_RX7_98 (v := .int (nI (mK S 16))) rfl ?_
    refine mn_iadd C d_X7_both_18 ?_
    refine m_iconst C d_X7_both_19 (v := (nI 1)) rfl ?_
    refine mn_isub C d_X7_both_20 (by omega) ?_
    refine m_zld C d_X7_both_21 (k := 9) (by decide) rfl (by show _ < 21; omega) (by decide) ?_
    refine mb_if_eq C d_X7_both_22 (tgt := 46) rfl (fun c_22 => ?_) (fun c_22 => ?_)
    · skip
      refine m_iconst C d_X7_both_46 (v := (bI false)) rfl ?_
      refine m_st (st' := [.int (bI (canB S))]) (by first | (rw [canB, decide_eq_true c_5, c_22, c_39]; rfl) | (rw [canB, decide_eq_true c_5, c_22]; rfl) | (rw [canB, decide_eq_false (by omega)]; rfl)) ?_
      exact join_47  
    · skip
      refine m_aload_n C d_X7_both_25 0 rfl ?_
      refine m_get C d_X7_both_26 fd_RX7_36 (v := .ref (q 9)) rfl ?_
      refine m_bipush C d_X7_both_29 (v := (nI 12)) rfl ?_
      refine m_aload_n C d_X7_both_31 0 rfl ?_
      refine m_get C d_X7_both_32 fd_RX7_98 (v := .int (nI (mK S 16))) rfl ?_
      refine mn_iadd C d_X7_both_35 ?_
      refine m_iconst C d_X7_both_36 (v := (nI 2)) rfl ?_
      refine mn_isub C d_X7_both_37 (by omega) ?_
      refine m_zld C d_X7_both_38 (k := 9) (by decide) rfl (by show _ < 21; omega) (by decide) ?_
      refine mb_if_eq C d_X7_both_39 (tgt := 46) rfl (fun c_39 => ?_) (fun c_39 => ?_)
      · skip
        refine m_iconst C d_X7_both_46 (v := (bI false)) rfl ?_
        refine m_st (st' := [.int (bI (canB S))]) (by first | (rw [canB, decide_eq_true c_5, c_22, c_39]; rfl) | (rw [canB, decide_eq_true c_5, c_22]; rfl) | (rw [canB, decide_eq_false (by omega)]; rfl)) ?_
        exact join_47  
      · skip
        refine m_iconst C d_X7_both_42 (v := (bI true)) rfl ?_
        refine m_goto C d_X7_both_43 (tgt := 47) rfl ?_
        refine m_st (st' := [.int (bI (canB S))]) (by first | (rw [canB, decide_eq_true c_5, c_22, c_39]; rfl) | (rw [canB, decide_eq_true c_5, c_22]; rfl) | (rw [canB, decide_eq_false (by omega)]; rfl)) ?_
        exact join_47  
