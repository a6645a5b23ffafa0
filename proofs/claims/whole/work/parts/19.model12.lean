theorem tw_852 : (Jvm.Cond.methodLink "CorpuslineModel" (140 : Nat) ({ cls := "CorpuslineModel", name := "isPattern", desc := "(I)Z" } : Jvm.MethodName)) ∈ TB := tb_of 852 (by decide +kernel) rfl
theorem tw_854 : (Jvm.Cond.instanceMethod ({ cls := "CorpuslineModel", name := "isPattern", desc := "(I)Z" } : Jvm.MethodName)) ∈ TB := tb_of 854 (by decide +kernel) rfl
theorem tw_855 : (Jvm.Cond.code ({ cls := "CorpuslineModel", name := "isPattern", desc := "(I)Z" } : Jvm.MethodName) prog_9_method_36_code (2 : Nat) (Option.some Jvm.ClassFile.FieldType.boolean)) ∈ TB := tb_of 855 (by decide +kernel) rfl
theorem tw_856 : (Jvm.Cond.methodLink "CorpuslineModel" (143 : Nat) ({ cls := "CorpuslineModel", name := "isBound", desc := "(I)Z" } : Jvm.MethodName)) ∈ TB := tb_of 856 (by decide +kernel) rfl
theorem tw_857 : (Jvm.Cond.static ({ cls := "CorpuslineModel", name := "isBound", desc := "(I)Z" } : Jvm.MethodName)) ∈ TB := tb_of 857 (by decide +kernel) rfl
theorem tw_858 : (Jvm.Cond.code ({ cls := "CorpuslineModel", name := "isBound", desc := "(I)Z" } : Jvm.MethodName) prog_9_method_37_code (1 : Nat) (Option.some Jvm.ClassFile.FieldType.boolean)) ∈ TB := tb_of 858 (by decide +kernel) rfl
theorem tw_859 : (Jvm.Cond.methodLink "CorpuslineModel" (146 : Nat) ({ cls := "CorpuslineModel", name := "longest", desc := "(IIIIZ)I" } : Jvm.MethodName)) ∈ TB := tb_of 859 (by decide +kernel) rfl
theorem tw_861 : (Jvm.Cond.instanceMethod ({ cls := "CorpuslineModel", name := "longest", desc := "(IIIIZ)I" } : Jvm.MethodName)) ∈ TB := tb_of 861 (by decide +kernel) rfl
theorem tw_862 : (Jvm.Cond.code ({ cls := "CorpuslineModel", name := "longest", desc := "(IIIIZ)I" } : Jvm.MethodName) prog_9_method_35_code (10 : Nat) (Option.some Jvm.ClassFile.FieldType.int)) ∈ TB := tb_of 862 (by decide +kernel) rfl
theorem ts_27 : Cond.selects "CorpuslineModel" ({ cls := "CorpuslineModel", name := "isPattern", desc := "(I)Z" } : MethodName) ({ cls := "CorpuslineModel", name := "isPattern", desc := "(I)Z" } : MethodName) ∈ TB := tb_sel 27 (by decide +kernel) rfl
theorem ts_28 : Cond.selects "CorpuslineModel" ({ cls := "CorpuslineModel", name := "longest", desc := "(IIIIZ)I" } : MethodName) ({ cls := "CorpuslineModel", name := "longest", desc := "(IIIIZ)I" } : MethodName) ∈ TB := tb_sel 28 (by decide +kernel) rfl
theorem ok_RX7_143 : okS RX7 143 yX7_isBound cX7_isBound 1 (Option.some Jvm.ClassFile.FieldType.boolean) 1 := ⟨tw_856, tw_857, tw_5, tw_858, ⟨by decide, by decide, by decide +kernel⟩⟩
theorem ok_RX7_140 : okV RX7 140 yX7_isPattern cX7_isPattern 2 (Option.some Jvm.ClassFile.FieldType.boolean) 1 := ⟨tw_852, tw_854, ts_27, tw_5, tw_855, ⟨by decide, by decide, by decide +kernel⟩⟩
theorem ok_RX7_146 : okV RX7 146 yX7_longest cX7_longest 10 (Option.some Jvm.ClassFile.FieldType.int) 5 := ⟨tw_859, tw_861, ts_28, tw_5, tw_862, ⟨by decide, by decide, by decide +kernel⟩⟩
/-- two states that the walks through patterns don't tell apart -/
def sameC (S T : mS) : Prop := (∀ i, mN S 1 i = mN T 1 i) ∧ (∀ i, mN S 2 i = mN T 2 i) ∧ (∀ i, mN S 3 i = mN T 3 i) ∧ (∀ i, mN S 4 i = mN T 4 i) ∧ (∀ i, mN S 8 i = mN T 8 i) ∧ (∀ i, mN S 12 i = mN T 12 i) ∧ (∀ i, mN S 13 i = mN T 13 i) ∧ (∀ i, mN S 14 i = mN T 14 i) ∧ (∀ i, mB S 10 i = mB T 10 i) ∧ (∀ i, mI S 11 i = mI T 11 i)
theorem mVal_c {S T : mS} (h : sameC S T) (s p a : Nat) : mVal S s p a = mVal T s p a := h.2.1 _
theorem tMat_c {S T : mS} (h : sameC S T) : tMat S = tMat T := by
  funext t s p lab
  unfold tMat
  have e : tF S t s p lab = tF T t s p lab := by
    funext k
    unfold tF tA
    rw [mVal_c h, h.2.2.2.2.2.2.2.2.2, h.2.2.2.2.2.1]
    have e2 : tC S t s p lab k = tC T t s p lab k := by
      funext z
      unfold tC
      rw [mVal_c h, mVal_c h, h.2.2.2.2.2.2.2.1]
    rw [e2]
  rw [e]
theorem goA_c {S T : mS} (h : sameC S T) : goA S = goA T := by
  funext pat way s fr e k
  unfold goA
  rw [tMat_c h]
  congr 1
  funext j
  exact h.2.2.2.2.2.2.1 _
theorem goN_c {S T : mS} (h : sameC S T) : goN S = goN T := by
  funext pat way s fr e
  unfold goN
  rw [goA_c h, h.2.2.2.2.1]
theorem inB_c {S T : mS} (h : sameC S T) : inB S = inB T := by
  funext s p bd e
  unfold inB
  rw [h.2.2.1, h.2.2.1, h.2.2.2.1, h.2.2.2.1]
theorem eGo_c {S T : mS} (h : sameC S T) (s p bd : Nat) : ∀ f e, eGo S s p bd f e = eGo T s p bd f e
  | 0, _ => rfl
  | f + 1, e => by rw [eGo, eGo, inB_c h, h.1, eGo_c h s p bd f]
theorem mLong_c {S T : mS} (h : sameC S T) (pat s p bd : Nat) (L : Bool) : mLong S pat s p bd L = mLong T pat s p bd L := by
  unfold mLong mLoW eOf
  rw [goN_c h, eGo_c h, h.2.2.2.2.1]
  congr 1
  funext w
  exact h.2.2.2.2.2.2.2.2.1 _
theorem mLong_le {S : mS} (C : mCore S) {pat s p bd : Nat} {L : Bool} (hp : pat < 21) : mLong S pat s p bd L ≤ 8 := Nat.le_trans (mLoW_le _) (C.2.2.2.2.2.1 pat hp)
def mIsP (S : mS) (v : Int32) : Bool := inI v (nI 0) (nI (mK S 15) - nI 1)
def cRun (S : mS) (r pat side bd : Int32) : Nat := if (mIsP S pat && inR side 0 1) = true then (if (inR r 0 7 && inR bd 0 2) = true then 0 else 2) else 1
theorem cRun_0 {S : mS} (I : mInv S) {r pat side bd : Int32} (h : cRun S r pat side bd = 0) : pat = nI (tn pat) ∧ tn pat < mK S 15 ∧ side = nI (tn side) ∧ tn side < 2 ∧ r = nI (tn r) ∧ tn r < 8 ∧ bd = nI (tn bd) ∧ tn bd < 3 := by
  unfold cRun at h
  split at h
  · rename_i c
    split at h
    · rename_i d
      rw [Bool.and_eq_true] at c d
      have i1 := pats_le I
      obtain ⟨e1, e2⟩ := inI_of (by omega) c.1
      obtain ⟨e3, -, e4⟩ := inR_of c.2 (by decide) (by decide)
      obtain ⟨e5, -, e6⟩ := inR_of d.1 (by decide) (by decide)
      obtain ⟨e7, -, e8⟩ := inR_of d.2 (by decide) (by decide)
      exact ⟨e1, e2, e3, by omega, e5, by omega, e7, by omega⟩
    · omega
  · omega
def lenX (S : mS) (pat s bd : Nat) (L : Bool) (k : Nat) : Nat := if k < mN S 1 s then mLong S pat s k bd L else 0
def bitX (x : Nat) : Nat := if x = 0 then 0 else 2 ^ x
def ruF (S : mS) (r pat s bd : Nat) (L : Bool) (k : Nat) : Nat → Nat := fun z => if 40 * r ≤ z ∧ z < 40 * r + k then bitX (lenX S pat s bd L (z - 40 * r)) else mN S 21 z
def ruS (S : mS) (r pat s bd : Nat) (L : Bool) (k : Nat) : mS := sN (uI (uK S 0 0) 20 r (nI s)) 21 (ruF S r pat s bd L k)
theorem ru_init {S : mS} {r pat s bd : Nat} {L : Bool} : uI (uK S 0 0) 20 r (nI s) = sI (ruS S r pat s bd L 0) 19 (fun z => mI S 19 z) := by
  unfold ruS
  rw [← sN_init (S := uI (uK S 0 0) 20 r (nI s)) (k := 21)]
  · apply sI_init
    intro z; rfl
  · intro z
    unfold ruF
    rw [if_neg (by omega)]; rfl
theorem ru_step {S : mS} {r pat s bd k : Nat} {L : Bool} {g : Nat → Int32} : uN (sI (ruS S r pat s bd L k) 19 g) 21 (40 * r + k) (bitX (lenX S pat s bd L k)) = sI (ruS S r pat s bd L (k + 1)) 19 g := by
  rw [uN_sI]
  unfold ruS
  rw [sN_step (g := ruF S r pat s bd L (k + 1))]
  intro z
  unfold ruF
  by_cases c : z = 40 * r + k
  · rw [if_pos c, if_pos (by omega), c, Nat.add_sub_cancel_left]
  · rw [if_neg c]
    by_cases d : 40 * r ≤ z ∧ z < 40 * r + k
    · rw [if_pos d, if_pos (by omega)]
    · rw [if_neg d, if_neg (by omega)]
theorem bitX_lt {x : Nat} (h : x ≤ 8) : bitX x < 512 := by
  unfold bitX
  split
  · omega
  · exact Nat.lt_of_le_of_lt (Nat.pow_le_pow_right (n := 2) (by decide) h) (by decide)
theorem ruF_lt {S : mS} (I : mInv S) {r pat s bd k : Nat} {L : Bool} (hp : pat < 21) {z : Nat} (hz : z < 320) : ruF S r pat s bd L k z < 512 := by
  unfold ruF
  split
  · apply bitX_lt
    unfold lenX
    split
    · exact mLong_le I.core hp
    · omega
  · exact (I.2.2.2.2.2.2.2.2.2.2.2.2.2.1 z hz).1
def tRun (S : mS) (r pat side bd : Int32) (L : Bool) : mS := if cRun S r pat side bd = 0 then ruS S (tn r) (tn pat) (tn side) (tn bd) L 40 else uK S 0 (cRun S r pat side bd)
def rRun (S : mS) (r pat side bd : Int32) (L : Bool) : Nat := if cRun S r pat side bd = 0 then mSize (tRun S r pat side bd L) (tn r) else 0
def cWalk (S : mS) (pat side bd : Int32) : Nat := if (mIsP S pat && inR side 0 1) = true then (if inR bd 0 2 = true then 0 else 2) else 1
theorem cWalk_0 {S : mS} (I : mInv S) {pat side bd : Int32} (h : cWalk S pat side bd = 0) : pat = nI (tn pat) ∧ tn pat < mK S 15 ∧ side = nI (tn side) ∧ tn side < 2 ∧ bd = nI (tn bd) ∧ tn bd < 3 := by
  unfold cWalk at h
  split at h
  · rename_i c
    split at h
    · rename_i d
      rw [Bool.and_eq_true] at c
      have i1 := pats_le I
      obtain ⟨e1, e2⟩ := inI_of (by omega) c.1
      obtain ⟨e3, -, e4⟩ := inR_of c.2 (by decide) (by decide)
      obtain ⟨e7, -, e8⟩ := inR_of d (by decide) (by decide)
      exact ⟨e1, e2, e3, by omega, e7, by omega⟩
    · omega
  · omega
def nWalk (S : mS) (pat s bd : Nat) (L : Bool) (k : Nat) : Nat := sumTo (fun j => if 0 < mLong S pat s j bd L then 1 else 0) k
def sWalk (S : mS) (pat s bd : Nat) (L : Bool) (k : Nat) : Nat := sumTo (fun j => mLong S pat s j bd L) k
def rWalk (S : mS) (pat side bd : Int32) (L : Bool) : Nat := if cWalk S pat side bd = 0 then 100 * nWalk S (tn pat) (tn side) (tn bd) L (mN S 1 (tn side)) + sWalk S (tn pat) (tn side) (tn bd) L (mN S 1 (tn side)) % 100 else 0

def dl_X7_run : List (Nat × Instr × Nat) := [(0, .aload_n 0, 1), (1, .iload_n 2, 1), (2, .invokevirtual 140, 3), (5, .ifCond .eq 14, 3), (8, .iload_n 3, 1), (9, .invokestatic 80, 3), (12, .ifCond .eq 7, 3), (15, .iconst 1, 1), (16, .goto 4, 3), (19, .iconst 0, 1), (20, .istore 6, 2), (22, .aload_n 0, 1), (23, .iload 6, 2), (25, .ifCond .ne 7, 3), (28, .iconst 1, 1), (29, .goto 26, 3), (32, .iload_n 1, 1), (33, .iconst 0, 1), (34, .bipush 7, 2), (36, .invokestatic 76, 3), (39, .ifCond .eq 15, 3), (42, .iload 4, 2), (44, .invokestatic 143, 3), (47, .ifCond .eq 7, 3), (50, .iconst 0, 1), (51, .goto 4, 3), (54, .iconst 2, 1), (55, .invokevirtual 84, 3), (58, .ifCond .ne 5, 3), (61, .iconst 0, 1), (62, .ireturn, 1), (63, .aload_n 0, 1), (64, .getfield 63, 3), (67, .iload_n 1, 1), (68, .iload_n 3, 1), (69, .iastore, 1), (70, .iconst 0, 1), (71, .istore 7, 2), (73, .iload 7, 2), (75, .bipush 40, 2), (77, .if_icmp .ge 63, 3), (80, .iload 7, 2), (82, .aload_n 0, 1), (83, .getfield 7, 3), (86, .iload_n 3, 1), (87, .iaload, 1), (88, .if_icmp .ge 18, 3), (91, .aload_n 0, 1), (92, .iload_n 2, 1), (93, .iload_n 3, 1), (94, .iload 7, 2), (96, .iload 4, 2), (98, .iload 5, 2), (100, .invokevirtual 146, 3), (103, .goto 4, 3), (106, .iconst 0, 1), (107, .istore 8, 2), (109, .aload_n 0, 1), (110, .getfield 66, 3), (113, .bipush 40, 2), (115, .iload_n 1, 1), (116, .imul, 1), (117, .iload 7, 2), (119, .iadd, 1), (120, .iload 8, 2), (122, .ifCond .ne 7, 3), (125, .iconst 0, 1), (126, .goto 7, 3), (129, .iconst 1, 1), (130, .iload 8, 2), (132, .ishl, 1), (133, .iastore, 1), (134, .iinc 7 1, 3), (137, .goto (-64), 3), (140, .aload_n 0, 1), (141, .iload_n 1, 1), (142, .invokevirtual 150, 3), (145, .ireturn, 1)]
theorem dc_X7_run : dnL cX7_run dl_X7_run = true := by decide +kernel
theorem d_X7_run_0 : dn cX7_run 0 (.aload_n 0) 1 1 := dnAt dc_X7_run 0 rfl rfl
theorem d_X7_run_1 : dn cX7_run 1 (.iload_n 2) 1 2 := dnAt dc_X7_run 1 rfl rfl
theorem d_X7_run_2 : dn cX7_run 2 (.invokevirtual 140) 3 5 := dnAt dc_X7_run 2 rfl rfl
theorem d_X7_run_5 : dn cX7_run 5 (.ifCond .eq 14) 3 8 := dnAt dc_X7_run 3 rfl rfl
theorem d_X7_run_8 : dn cX7_run 8 (.iload_n 3) 1 9 := dnAt dc_X7_run 4 rfl rfl
theorem d_X7_run_9 : dn cX7_run 9 (.invokestatic 80) 3 12 := dnAt dc_X7_run 5 rfl rfl
theorem d_X7_run_12 : dn cX7_run 12 (.ifCond .eq 7) 3 15 := dnAt dc_X7_run 6 rfl rfl
theorem d_X7_run_15 : dn cX7_run 15 (.iconst 1) 1 16 := dnAt dc_X7_run 7 rfl rfl
theorem d_X7_run_16 : dn cX7_run 16 (.goto 4) 3 19 := dnAt dc_X7_run 8 rfl rfl
theorem d_X7_run_19 : dn cX7_run 19 (.iconst 0) 1 20 := dnAt dc_X7_run 9 rfl rfl
theorem d_X7_run_20 : dn cX7_run 20 (.istore 6) 2 22 := dnAt dc_X7_run 10 rfl rfl
theorem d_X7_run_22 : dn cX7_run 22 (.aload_n 0) 1 23 := dnAt dc_X7_run 11 rfl rfl
theorem d_X7_run_23 : dn cX7_run 23 (.iload 6) 2 25 := dnAt dc_X7_run 12 rfl rfl
theorem d_X7_run_25 : dn cX7_run 25 (.ifCond .ne 7) 3 28 := dnAt dc_X7_run 13 rfl rfl
theorem d_X7_run_28 : dn cX7_run 28 (.iconst 1) 1 29 := dnAt dc_X7_run 14 rfl rfl
theorem d_X7_run_29 : dn cX7_run 29 (.goto 26) 3 32 := dnAt dc_X7_run 15 rfl rfl
theorem d_X7_run_32 : dn cX7_run 32 (.iload_n 1) 1 33 := dnAt dc_X7_run 16 rfl rfl
theorem d_X7_run_33 : dn cX7_run 33 (.iconst 0) 1 34 := dnAt dc_X7_run 17 rfl rfl
theorem d_X7_run_34 : dn cX7_run 34 (.bipush 7) 2 36 := dnAt dc_X7_run 18 rfl rfl
theorem d_X7_run_36 : dn cX7_run 36 (.invokestatic 76) 3 39 := dnAt dc_X7_run 19 rfl rfl
theorem d_X7_run_39 : dn cX7_run 39 (.ifCond .eq 15) 3 42 := dnAt dc_X7_run 20 rfl rfl
theorem d_X7_run_42 : dn cX7_run 42 (.iload 4) 2 44 := dnAt dc_X7_run 21 rfl rfl
theorem d_X7_run_44 : dn cX7_run 44 (.invokestatic 143) 3 47 := dnAt dc_X7_run 22 rfl rfl
theorem d_X7_run_47 : dn cX7_run 47 (.ifCond .eq 7) 3 50 := dnAt dc_X7_run 23 rfl rfl
theorem d_X7_run_50 : dn cX7_run 50 (.iconst 0) 1 51 := dnAt dc_X7_run 24 rfl rfl
theorem d_X7_run_51 : dn cX7_run 51 (.goto 4) 3 54 := dnAt dc_X7_run 25 rfl rfl
theorem d_X7_run_54 : dn cX7_run 54 (.iconst 2) 1 55 := dnAt dc_X7_run 26 rfl rfl
theorem d_X7_run_55 : dn cX7_run 55 (.invokevirtual 84) 3 58 := dnAt dc_X7_run 27 rfl rfl
theorem d_X7_run_58 : dn cX7_run 58 (.ifCond .ne 5) 3 61 := dnAt dc_X7_run 28 rfl rfl
theorem d_X7_run_61 : dn cX7_run 61 (.iconst 0) 1 62 := dnAt dc_X7_run 29 rfl rfl
theorem d_X7_run_62 : dn cX7_run 62 (.ireturn) 1 63 := dnAt dc_X7_run 30 rfl rfl
theorem d_X7_run_63 : dn cX7_run 63 (.aload_n 0) 1 64 := dnAt dc_X7_run 31 rfl rfl
theorem d_X7_run_64 : dn cX7_run 64 (.getfield 63) 3 67 := dnAt dc_X7_run 32 rfl rfl
theorem d_X7_run_67 : dn cX7_run 67 (.iload_n 1) 1 68 := dnAt dc_X7_run 33 rfl rfl
theorem d_X7_run_68 : dn cX7_run 68 (.iload_n 3) 1 69 := dnAt dc_X7_run 34 rfl rfl
theorem d_X7_run_69 : dn cX7_run 69 (.iastore) 1 70 := dnAt dc_X7_run 35 rfl rfl
theorem d_X7_run_70 : dn cX7_run 70 (.iconst 0) 1 71 := dnAt dc_X7_run 36 rfl rfl
theorem d_X7_run_71 : dn cX7_run 71 (.istore 7) 2 73 := dnAt dc_X7_run 37 rfl rfl
theorem d_X7_run_73 : dn cX7_run 73 (.iload 7) 2 75 := dnAt dc_X7_run 38 rfl rfl
theorem d_X7_run_75 : dn cX7_run 75 (.bipush 40) 2 77 := dnAt dc_X7_run 39 rfl rfl
theorem d_X7_run_77 : dn cX7_run 77 (.if_icmp .ge 63) 3 80 := dnAt dc_X7_run 40 rfl rfl
theorem d_X7_run_80 : dn cX7_run 80 (.iload 7) 2 82 := dnAt dc_X7_run 41 rfl rfl
theorem d_X7_run_82 : dn cX7_run 82 (.aload_n 0) 1 83 := dnAt dc_X7_run 42 rfl rfl
theorem d_X7_run_83 : dn cX7_run 83 (.getfield 7) 3 86 := dnAt dc_X7_run 43 rfl rfl
theorem d_X7_run_86 : dn cX7_run 86 (.iload_n 3) 1 87 := dnAt dc_X7_run 44 rfl rfl
theorem d_X7_run_87 : dn cX7_run 87 (.iaload) 1 88 := dnAt dc_X7_run 45 rfl rfl
theorem d_X7_run_88 : dn cX7_run 88 (.if_icmp .ge 18) 3 91 := dnAt dc_X7_run 46 rfl rfl
theorem d_X7_run_91 : dn cX7_run 91 (.aload_n 0) 1 92 := dnAt dc_X7_run 47 rfl rfl
theorem d_X7_run_92 : dn cX7_run 92 (.iload_n 2) 1 93 := dnAt dc_X7_run 48 rfl rfl
theorem d_X7_run_93 : dn cX7_run 93 (.iload_n 3) 1 94 := dnAt dc_X7_run 49 rfl rfl
theorem d_X7_run_94 : dn cX7_run 94 (.iload 7) 2 96 := dnAt dc_X7_run 50 rfl rfl
theorem d_X7_run_96 : dn cX7_run 96 (.iload 4) 2 98 := dnAt dc_X7_run 51 rfl rfl
theorem d_X7_run_98 : dn cX7_run 98 (.iload 5) 2 100 := dnAt dc_X7_run 52 rfl rfl
theorem d_X7_run_100 : dn cX7_run 100 (.invokevirtual 146) 3 103 := dnAt dc_X7_run 53 rfl rfl
theorem d_X7_run_103 : dn cX7_run 103 (.goto 4) 3 106 := dnAt dc_X7_run 54 rfl rfl
theorem d_X7_run_106 : dn cX7_run 106 (.iconst 0) 1 107 := dnAt dc_X7_run 55 rfl rfl
theorem d_X7_run_107 : dn cX7_run 107 (.istore 8) 2 109 := dnAt dc_X7_run 56 rfl rfl
theorem d_X7_run_109 : dn cX7_run 109 (.aload_n 0) 1 110 := dnAt dc_X7_run 57 rfl rfl
theorem d_X7_run_110 : dn cX7_run 110 (.getfield 66) 3 113 := dnAt dc_X7_run 58 rfl rfl
theorem d_X7_run_113 : dn cX7_run 113 (.bipush 40) 2 115 := dnAt dc_X7_run 59 rfl rfl
theorem d_X7_run_115 : dn cX7_run 115 (.iload_n 1) 1 116 := dnAt dc_X7_run 60 rfl rfl
theorem d_X7_run_116 : dn cX7_run 116 (.imul) 1 117 := dnAt dc_X7_run 61 rfl rfl
theorem d_X7_run_117 : dn cX7_run 117 (.iload 7) 2 119 := dnAt dc_X7_run 62 rfl rfl
theorem d_X7_run_119 : dn cX7_run 119 (.iadd) 1 120 := dnAt dc_X7_run 63 rfl rfl
theorem d_X7_run_120 : dn cX7_run 120 (.iload 8) 2 122 := dnAt dc_X7_run 64 rfl rfl
theorem d_X7_run_122 : dn cX7_run 122 (.ifCond .ne 7) 3 125 := dnAt dc_X7_run 65 rfl rfl
theorem d_X7_run_125 : dn cX7_run 125 (.iconst 0) 1 126 := dnAt dc_X7_run 66 rfl rfl
theorem d_X7_run_126 : dn cX7_run 126 (.goto 7) 3 129 := dnAt dc_X7_run 67 rfl rfl
theorem d_X7_run_129 : dn cX7_run 129 (.iconst 1) 1 130 := dnAt dc_X7_run 68 rfl rfl
theorem d_X7_run_130 : dn cX7_run 130 (.iload 8) 2 132 := dnAt dc_X7_run 69 rfl rfl
theorem d_X7_run_132 : dn cX7_run 132 (.ishl) 1 133 := dnAt dc_X7_run 70 rfl rfl
theorem d_X7_run_133 : dn cX7_run 133 (.iastore) 1 134 := dnAt dc_X7_run 71 rfl rfl
theorem d_X7_run_134 : dn cX7_run 134 (.iinc 7 1) 3 137 := dnAt dc_X7_run 72 rfl rfl
theorem d_X7_run_137 : dn cX7_run 137 (.goto (-64)) 3 140 := dnAt dc_X7_run 73 rfl rfl
theorem d_X7_run_140 : dn cX7_run 140 (.aload_n 0) 1 141 := dnAt dc_X7_run 74 rfl rfl
theorem d_X7_run_141 : dn cX7_run 141 (.iload_n 1) 1 142 := dnAt dc_X7_run 75 rfl rfl
theorem d_X7_run_142 : dn cX7_run 142 (.invokevirtual 150) 3 145 := dnAt dc_X7_run 76 rfl rfl
theorem d_X7_run_145 : dn cX7_run 145 (.ireturn) 1 146 := dnAt dc_X7_run 77 rfl rfl
set_option maxHeartbeats 4000000 in
set_option maxRecDepth 100000 in
theorem m_run (S : mS) (r pat side bd : Int32) (L : Bool) (I : mInv S) : mC yX7_run cX7_run 9 (Option.some Jvm.ClassFile.FieldType.int) { frames := 4, cells := 0, slots := 0, locals := 109 } [.int r, .int pat, .int side, .int bd, .int (bI L)] S (fun v9 T9 => v9 = some (.int (nI (rRun S r pat side bd L))) ∧ ∃ f9, T9 = sI (tRun S r pat side bd L) 19 f9) := by
  refine mC.of (by decide) (Nat.le_of_ble_eq_true rfl) ?_
  intro G x q h0 C A TY
  show VM G x q h0 S 0 [(0, .ref (q 0)), (1, .int r), (2, .int pat), (3, .int side), (4, .int bd), (5, .int (bI L))] []
  have join_20 : VM G x q h0 S 20 [(0, .ref (q 0)), (1, .int r), (2, .int pat), (3, .int side), (4, .int bd), (5, .int (bI L))] [.int (bI (mIsP S pat && inR side 0 1))] := by
    refine m_istore C d_X7_run_20 (lv' := [(6, .int (bI (mIsP S pat && inR side 0 1))), (0, .ref (q 0)), (1, .int r), (2, .int pat), (3, .int side), (4, .int bd), (5, .int (bI L))]) (by decide) rfl ?_
    have join_55 : VM G x q h0 S 55 [(0, .ref (q 0)), (1, .int r), (2, .int pat), (3, .int side), (4, .int bd), (5, .int (bI L))] [.int (nI (cRun S r pat side bd)), .ref (q 0)] := by
      refine m_callV C d_X7_run_55 ok_RX7_84 (m_holds S (cRun S r pat side bd) (by unfold cRun; split <;> (try split) <;> omega)) rfl (rest := []) rfl rfl (Nat.le_of_ble_eq_true rfl) ⟨⟨by decide, by decide⟩, by decide, by decide⟩ (fun v9 T9 e9 => ?_)
      obtain ⟨rfl, e9⟩ := e9
      refine m_eq e9 ?_
      show VM G x q h0 (uK S 0 (cRun S r pat side bd)) 58 [(0, .ref (q 0)), (1, .int r), (2, .int pat), (3, .int side), (4, .int bd), (5, .int (bI L))] [.int (bI (decide (cRun S r pat side bd = 0)))]
      refine mb_if_ne C d_X7_run_58 (tgt := 63) rfl (fun c_58 => ?_) (fun c_58 => ?_)
      · skip
        have c0 := of_decide_eq_true c_58
        obtain ⟨e1, e2, e3, e4, e5, e6, e7, e8⟩ := cRun_0 I c0
        have i1 := pats_le I
        have i2 := I.1 (tn side) e4
        rw [c0]
        refine m_lve (lv' := [(0, .ref (q 0)), (1, .int (nI (tn r))), (2, .int (nI (tn pat))), (3, .int (nI (tn side))), (4, .int (nI (tn bd))), (5, .int (bI L))]) (by rw [← e1, ← e3, ← e5, ← e7]) ?_
        refine m_aload_n C d_X7_run_63 0 rfl ?_
        refine m_get C d_X7_run_64 fd_RX7_63 (v := .ref (q 20)) rfl ?_
        refine m_iload_n C d_X7_run_67 1 rfl ?_
        refine m_iload_n C d_X7_run_68 3 rfl ?_
        refine m_astI C d_X7_run_69 (k := 20) (v := (nI (tn side))) (by decide) rfl (by show _ < 8; omega) (by decide) ?_
        refine m_iconst C d_X7_run_70 (v := (nI 0)) rfl ?_
        refine m_istore C d_X7_run_71 (lv' := [(7, .int (nI 0)), (0, .ref (q 0)), (1, .int (nI (tn r))), (2, .int (nI (tn pat))), (3, .int (nI (tn side))), (4, .int (nI (tn bd))), (5, .int (bI L))]) (by decide) rfl ?_
        have loop_73 : ∀ (fuel : Nat) (k : Nat) (g : Nat → Int32), (k ≤ 40) → (41 - k) < fuel → VM G x q h0 (sI (ruS S (tn r) (tn pat) (tn side) (tn bd) L k) 19 g) 73 [(0, .ref (q 0)), (1, .int (nI (tn r))), (2, .int (nI (tn pat))), (3, .int (nI (tn side))), (4, .int (nI (tn bd))), (5, .int (bI L)), (7, .int (nI k))] [] := by
          intro fuel
          induction fuel with
          | zero => intro k g hk hf9; exact absurd hf9 (Nat.not_lt_zero _)
          | succ fuel ih_73 =>
            intro k g hk hf9
            refine m_iload C d_X7_run_73 6 rfl ?_
            refine m_bipush C d_X7_run_75 (v := (nI 40)) rfl ?_
            refine mn_icmp_ge C d_X7_run_77 (tgt := 140) rfl (by omega) (by omega) (fun c_77 => ?_) (fun c_77 => ?_)
            · skip
              obtain rfl : k = 40 := by omega
              refine m_aload_n C d_X7_run_140 0 rfl ?_
              refine m_iload_n C d_X7_run_141 1 rfl ?_
              refine m_callV C d_X7_run_142 ok_RX7_150 (m_sizeOf (sI (ruS S (tn r) (tn pat) (tn side) (tn bd) L 40) 19 g) (tn r) (by omega) (fun z hz => ruF_lt I (by omega) hz)) rfl (rest := []) rfl rfl (Nat.le_of_ble_eq_true rfl) ⟨⟨by decide, by decide⟩, by decide, by decide⟩ (fun v9 T9 e9 => ?_)
              obtain ⟨rfl, e9⟩ := e9
              refine m_eq e9 ?_
              show VM G x q h0 (sI (ruS S (tn r) (tn pat) (tn side) (tn bd) L 40) 19 g) 145 [(0, .ref (q 0)), (1, .int (nI (tn r))), (2, .int (nI (tn pat))), (3, .int (nI (tn side))), (4, .int (nI (tn bd))), (5, .int (bI L)), (7, .int (nI 40))] [.int (nI (mSize (ruS S (tn r) (tn pat) (tn side) (tn bd) L 40) (tn r)))]
              exact m_iret C A TY d_X7_run_145 rfl (⟨by rw [rRun, if_pos c0, tRun, if_pos c0], _, by rw [tRun, if_pos c0]⟩)
            · skip
              have join_107 : ∀ (g2 : Nat → Int32), VM G x q h0 (sI (ruS S (tn r) (tn pat) (tn side) (tn bd) L k) 19 g2) 107 [(0, .ref (q 0)), (1, .int (nI (tn r))), (2, .int (nI (tn pat))), (3, .int (nI (tn side))), (4, .int (nI (tn bd))), (5, .int (bI L)), (7, .int (nI k))] [.int (nI (lenX S (tn pat) (tn side) (tn bd) L k))] := by
                intro g2
                refine m_istore C d_X7_run_107 (lv' := [(8, .int (nI (lenX S (tn pat) (tn side) (tn bd) L k))), (0, .ref (q 0)), (1, .int (nI (tn r))), (2, .int (nI (tn pat))), (3, .int (nI (tn side))), (4, .int (nI (tn bd))), (5, .int (bI L)), (7, .int (nI k))]) (by decide) rfl ?_
                have join_133 : VM G x q h0 (sI (ruS S (tn r) (tn pat) (tn side) (tn bd) L k) 19 g2) 133 [(0, .ref (q 0)), (1, .int (nI (tn r))), (2, .int (nI (tn pat))), (3, .int (nI (tn side))), (4, .int (nI (tn bd))), (5, .int (bI L)), (7, .int (nI k))] [.int (nI (bitX (lenX S (tn pat) (tn side) (tn bd) L k))), .int (nI (40 * tn r + k)), .ref (q 21)] := by
                  refine m_ast C d_X7_run_133 (k := 21) (v := bitX (lenX S (tn pat) (tn side) (tn bd) L k)) (by decide) rfl (by show _ < 320; omega) (by decide) ?_
                  refine mn_iinc C d_X7_run_134 (lv' := [(7, .int (nI (k + 1))), (0, .ref (q 0)), (1, .int (nI (tn r))), (2, .int (nI (tn pat))), (3, .int (nI (tn side))), (4, .int (nI (tn bd))), (5, .int (bI L))]) 6 rfl (nI_inc _ rfl) (by decide) rfl ?_
                  refine m_goto C d_X7_run_137 (tgt := 73) rfl ?_
                  refine m_eq (S' := sI (ruS S (tn r) (tn pat) (tn side) (tn bd) L (k + 1)) 19 g2) (ru_step) ?_
                  refine m_lv (lv' := [(0, .ref (q 0)), (1, .int (nI (tn r))), (2, .int (nI (tn pat))), (3, .int (nI (tn side))), (4, .int (nI (tn bd))), (5, .int (bI L)), (7, .int (nI (k + 1)))]) [1, 2, 3, 4, 5, 6, 0] rfl ?_
                  exact ih_73 (k + 1) g2 (by omega) (by omega)
                refine m_aload_n C d_X7_run_109 1 rfl ?_
                refine m_get C d_X7_run_110 fd_RX7_66 (v := .ref (q 21)) rfl ?_
                refine m_bipush C d_X7_run_113 (v := (nI 40)) rfl ?_
                refine m_iload_n C d_X7_run_115 2 rfl ?_
                refine mn_imul C d_X7_run_116 ?_
                refine m_iload C d_X7_run_117 7 rfl ?_
                refine mn_iadd C d_X7_run_119 ?_
                refine m_iload C d_X7_run_120 0 rfl ?_
                refine mn_if_ne C d_X7_run_122 (tgt := 129) rfl (by have := mLong_le I.core (S := S) (pat := tn pat) (s := tn side) (p := k) (bd := tn bd) (L := L) (by omega); unfold lenX; split <;> omega) (fun c_122 => ?_) (fun c_122 => ?_)
                · skip
                  refine m_iconst C d_X7_run_129 (v := (nI 1)) rfl ?_
                  refine m_iload C d_X7_run_130 0 rfl ?_
                  refine mn_ishl C d_X7_run_132 (by have := mLong_le I.core (S := S) (pat := tn pat) (s := tn side) (p := k) (bd := tn bd) (L := L) (by omega); unfold lenX; split <;> omega) ?_
                  refine m_lv (lv' := [(0, .ref (q 0)), (1, .int (nI (tn r))), (2, .int (nI (tn pat))), (3, .int (nI (tn side))), (4, .int (nI (tn bd))), (5, .int (bI L)), (7, .int (nI k))]) [1, 2, 3, 4, 5, 6, 7] rfl ?_
                  refine m_st (st' := [.int (nI (bitX (lenX S (tn pat) (tn side) (tn bd) L k))), .int (nI (40 * tn r + k)), .ref (q 21)]) (by rw [bitX, if_neg (by omega), Nat.one_mul]) ?_
                  exact join_133  
                · skip
                  refine m_iconst C d_X7_run_125 (v := (nI 0)) rfl ?_
                  refine m_goto C d_X7_run_126 (tgt := 133) rfl ?_
                  refine m_lv (lv' := [(0, .ref (q 0)), (1, .int (nI (tn r))), (2, .int (nI (tn pat))), (3, .int (nI (tn side))), (4, .int (nI (tn bd))), (5, .int (bI L)), (7, .int (nI k))]) [1, 2, 3, 4, 5, 6, 7] rfl ?_
                  refine m_st (st' := [.int (nI (bitX (lenX S (tn pat) (tn side) (tn bd) L k))), .int (nI (40 * tn r + k)), .ref (q 21)]) (by rw [bitX, if_pos c_122]) ?_
                  exact join_133  
              refine m_iload C d_X7_run_80 6 rfl ?_
              refine m_aload_n C d_X7_run_82 0 rfl ?_
              refine m_get C d_X7_run_83 fd_RX7_7 (v := .ref (q 1)) rfl ?_
              refine m_iload_n C d_X7_run_86 3 rfl ?_
              refine m_ald C d_X7_run_87 (k := 1) (by decide) rfl (by show _ < 2; omega) (by decide) ?_
              refine m_st (st' := [.int (nI (mN S 1 (tn side))), .int (nI k)]) rfl ?_
              refine mn_icmp_ge C d_X7_run_88 (tgt := 106) rfl (by omega) (by omega) (fun c_88 => ?_) (fun c_88 => ?_)
              · skip
                refine m_iconst C d_X7_run_106 (v := (nI 0)) rfl ?_
                refine m_st (st' := [.int (nI (lenX S (tn pat) (tn side) (tn bd) L k))]) (by rw [lenX, if_neg (by omega)]) ?_
                exact join_107 g 
              · skip
                refine m_aload_n C d_X7_run_91 0 rfl ?_
                refine m_iload_n C d_X7_run_92 2 rfl ?_
                refine m_iload_n C d_X7_run_93 3 rfl ?_
                refine m_iload C d_X7_run_94 6 rfl ?_
                refine m_iload C d_X7_run_96 4 rfl ?_
                refine m_iload C d_X7_run_98 5 rfl ?_
                refine m_callV C d_X7_run_100 ok_RX7_146 (m_longest (ruS S (tn r) (tn pat) (tn side) (tn bd) L k) g (tn pat) (tn side) k (tn bd) L I.core (by omega) (by omega) (c_88) (by omega)) rfl (rest := []) rfl rfl (Nat.le_of_ble_eq_true rfl) ⟨⟨by decide, by decide⟩, by decide, by decide⟩ (fun v9 T9 e9 => ?_)
                obtain ⟨rfl, f9, rfl⟩ := e9
                show VM G x q h0 (sI (ruS S (tn r) (tn pat) (tn side) (tn bd) L k) 19 f9) 103 [(0, .ref (q 0)), (1, .int (nI (tn r))), (2, .int (nI (tn pat))), (3, .int (nI (tn side))), (4, .int (nI (tn bd))), (5, .int (bI L)), (7, .int (nI k))] [.int (nI (mLong (ruS S (tn r) (tn pat) (tn side) (tn bd) L k) (tn pat) (tn side) k (tn bd) L))]
                refine m_goto C d_X7_run_103 (tgt := 107) rfl ?_
                refine m_st (st' := [.int (nI (lenX S (tn pat) (tn side) (tn bd) L k))]) (by rw [lenX, if_pos c_88, mLong_c (S := ruS S (tn r) (tn pat) (tn side) (tn bd) L k) (T := S) ⟨fun _ => rfl, fun _ => rfl, fun _ => rfl, fun _ => rfl, fun _ => rfl, fun _ => rfl, fun _ => rfl, fun _ => rfl, fun _ => rfl, fun _ => rfl⟩]) ?_
                exact join_107 f9 
        refine m_eq (S' := sI (ruS S (tn r) (tn pat) (tn side) (tn bd) L 0) 19 (fun z => mI S 19 z)) (ru_init) ?_
        refine m_lv (lv' := [(0, .ref (q 0)), (1, .int (nI (tn r))), (2, .int (nI (tn pat))), (3, .int (nI (tn side))), (4, .int (nI (tn bd))), (5, .int (bI L)), (7, .int (nI 0))]) [1, 2, 3, 4, 5, 6, 0] rfl ?_
        exact loop_73 _ 0 (fun z => mI S 19 z) (by omega) (Nat.lt_succ_self _)
      · skip
        have c1 := of_decide_eq_false c_58
        refine m_iconst C d_X7_run_61 (v := (nI 0)) rfl ?_
        exact m_iret C A TY d_X7_run_62 rfl (⟨by rw [rRun, if_neg c1], fun z => mI S 19 z, by rw [tRun, if_neg c1]; exact sI_init (fun _ => rfl)⟩)
    refine m_aload_n C d_X7_run_22 1 rfl ?_
    refine m_iload C d_X7_run_23 0 rfl ?_
    refine mb_if_ne C d_X7_run_25 (tgt := 32) rfl (fun c_25 => ?_) (fun c_25 => ?_)
    · skip
      refine m_iload_n C d_X7_run_32 2 rfl ?_
      refine m_iconst C d_X7_run_33 (v := (nI 0)) rfl ?_
      refine m_bipush C d_X7_run_34 (v := (nI 7)) rfl ?_
      refine m_callS C d_X7_run_36 ok_RX7_76 (s_isIn r ((nI 0)) ((nI 7))) (rest := [.ref (q 0)]) rfl rfl (Nat.le_of_ble_eq_true rfl) ⟨⟨by decide, by decide⟩, by decide, by decide⟩ ?_
      show VM G x q h0 S 39 [(6, .int (bI (mIsP S pat && inR side 0 1))), (0, .ref (q 0)), (1, .int r), (2, .int pat), (3, .int side), (4, .int bd), (5, .int (bI L))] [.int (bI (inR r 0 7)), .ref (q 0)]
      refine mb_if_eq C d_X7_run_39 (tgt := 54) rfl (fun c_39 => ?_) (fun c_39 => ?_)
      · skip
        refine m_iconst C d_X7_run_54 (v := (nI 2)) rfl ?_
        refine m_lv (lv' := [(0, .ref (q 0)), (1, .int r), (2, .int pat), (3, .int side), (4, .int bd), (5, .int (bI L))]) [1, 2, 3, 4, 5, 6] rfl ?_
        refine m_st (st' := [.int (nI (cRun S r pat side bd)), .ref (q 0)]) (by rw [cRun, if_pos c_25, c_39]; rfl) ?_
        exact join_55  
      · skip
        refine m_iload C d_X7_run_42 5 rfl ?_
        refine m_callS C d_X7_run_44 ok_RX7_143 (s_isBound bd) (rest := [.ref (q 0)]) rfl rfl (Nat.le_of_ble_eq_true rfl) ⟨⟨by decide, by decide⟩, by decide, by decide⟩ ?_
        show VM G x q h0 S 47 [(6, .int (bI (mIsP S pat && inR side 0 1))), (0, .ref (q 0)), (1, .int r), (2, .int pat), (3, .int side), (4, .int bd), (5, .int (bI L))] [.int (bI (inR bd 0 2)), .ref (q 0)]
        refine mb_if_eq C d_X7_run_47 (tgt := 54) rfl (fun c_47 => ?_) (fun c_47 => ?_)
        · skip
          refine m_iconst C d_X7_run_54 (v := (nI 2)) rfl ?_
          refine m_lv (lv' := [(0, .ref (q 0)), (1, .int r), (2, .int pat), (3, .int side), (4, .int bd), (5, .int (bI L))]) [1, 2, 3, 4, 5, 6] rfl ?_
          refine m_st (st' := [.int (nI (cRun S r pat side bd)), .ref (q 0)]) (by rw [cRun, if_pos c_25, c_39, c_47]; rfl) ?_
          exact join_55  
        · skip
          refine m_iconst C d_X7_run_50 (v := (nI 0)) rfl ?_
          refine m_goto C d_X7_run_51 (tgt := 55) rfl ?_
          refine m_lv (lv' := [(0, .ref (q 0)), (1, .int r), (2, .int pat), (3, .int side), (4, .int bd), (5, .int (bI L))]) [1, 2, 3, 4, 5, 6] rfl ?_
          refine m_st (st' := [.int (nI (cRun S r pat side bd)), .ref (q 0)]) (by rw [cRun, if_pos c_25, c_39, c_47]; rfl) ?_
          exact join_55  
    · skip
      refine m_iconst C d_X7_run_28 (v := (nI 1)) rfl ?_
      refine m_goto C d_X7_run_29 (tgt := 55) rfl ?_
      refine m_lv (lv' := [(0, .ref (q 0)), (1, .int r), (2, .int pat), (3, .int side), (4, .int bd), (5, .int (bI L))]) [1, 2, 3, 4, 5, 6] rfl ?_
      refine m_st (st' := [.int (nI (cRun S r pat side bd)), .ref (q 0)]) (by rw [cRun, if_neg (by rw [c_25]; decide)]) ?_
      exact join_55  
  refine m_aload_n C d_X7_run_0 0 rfl ?_
  refine m_iload_n C d_X7_run_1 2 rfl ?_
  refine m_callV C d_X7_run_2 ok_RX7_140 (m_isPattern S pat) rfl (rest := []) rfl rfl (Nat.le_of_ble_eq_true rfl) ⟨⟨by decide, by decide⟩, by decide, by decide⟩ (fun v9 T9 e9 => ?_)
  obtain ⟨rfl, e9⟩ := e9
  refine m_eq e9 ?_
  show VM G x q h0 S 5 [(0, .ref (q 0)), (1, .int r), (2, .int pat), (3, .int side), (4, .int bd), (5, .int (bI L))] [.int (bI (inI pat (nI 0) (nI (mK S 15) - nI 1)))]
  refine mb_if_eq C d_X7_run_5 (tgt := 19) rfl (fun c_5 => ?_) (fun c_5 => ?_)
  · skip
    refine m_iconst C d_X7_run_19 (v := (bI false)) rfl ?_
    refine m_st (st' := [.int (bI (mIsP S pat && inR side 0 1))]) (by rw [mIsP, c_5]; rfl) ?_
    exact join_20  
  · skip
    refine m_iload_n C d_X7_run_8 3 rfl ?_
    refine m_callS C d_X7_run_9 ok_RX7_80 (s_isSide side) (rest := []) rfl rfl (Nat.le_of_ble_eq_true rfl) ⟨⟨by decide, by decide⟩, by decide, by decide⟩ ?_
    show VM G x q h0 S 12 [(0, .ref (q 0)), (1, .int r), (2, .int pat), (3, .int side), (4, .int bd), (5, .int (bI L))] [.int (bI (inR side 0 1))]
    refine mb_if_eq C d_X7_run_12 (tgt := 19) rfl (fun c_12 => ?_) (fun c_12 => ?_)
    · skip
      refine m_iconst C d_X7_run_19 (v := (bI false)) rfl ?_
      refine m_st (st' := [.int (bI (mIsP S pat && inR side 0 1))]) (by rw [mIsP, c_5, c_12]; rfl) ?_
      exact join_20  
    · skip
      refine m_iconst C d_X7_run_15 (v := (bI true)) rfl ?_
      refine m_goto C d_X7_run_16 (tgt := 20) rfl ?_
      refine m_st (st' := [.int (bI (mIsP S pat && inR side 0 1))]) (by rw [mIsP, c_5, c_12]; rfl) ?_
      exact join_20  
def dl_X7_walk : List (Nat × Instr × Nat) := [(0, .aload_n 0, 1), (1, .iload_n 1, 1), (2, .invokevirtual 140, 3), (5, .ifCond .eq 14, 3), (8, .iload_n 2, 1), (9, .invokestatic 80, 3), (12, .ifCond .eq 7, 3), (15, .iconst 1, 1), (16, .goto 4, 3), (19, .iconst 0, 1), (20, .istore 5, 2), (22, .aload_n 0, 1), (23, .iload 5, 2), (25, .ifCond .ne 7, 3), (28, .iconst 1, 1), (29, .goto 15, 3), (32, .iload_n 3, 1), (33, .invokestatic 143, 3), (36, .ifCond .eq 7, 3), (39, .iconst 0, 1), (40, .goto 4, 3), (43, .iconst 2, 1), (44, .invokevirtual 84, 3), (47, .ifCond .ne 5, 3), (50, .iconst 0, 1), (51, .ireturn, 1), (52, .iconst 0, 1), (53, .istore 6, 2), (55, .iconst 0, 1), (56, .istore 7, 2), (58, .iconst 0, 1), (59, .istore 8, 2), (61, .iload 8, 2), (63, .aload_n 0, 1), (64, .getfield 7, 3), (67, .iload_n 2, 1), (68, .iaload, 1), (69, .if_icmp .ge 44, 3), (72, .aload_n 0, 1), (73, .iload_n 1, 1), (74, .iload_n 2, 1), (75, .iload 8, 2), (77, .iload_n 3, 1), (78, .iload 4, 2), (80, .invokevirtual 146, 3), (83, .istore 9, 2), (85, .iload 6, 2), (87, .iload 9, 2), (89, .ifCond .le 7, 3), (92, .iconst 1, 1), (93, .goto 4, 3), (96, .iconst 0, 1), (97, .iadd, 1), (98, .istore 6, 2), (100, .iload 7, 2), (102, .iload 9, 2), (104, .iadd, 1), (105, .istore 7, 2), (107, .iinc 8 1, 3), (110, .goto (-49), 3), (113, .bipush 100, 2), (115, .iload 6, 2), (117, .imul, 1), (118, .iload 7, 2), (120, .bipush 100, 2), (122, .irem, 1), (123, .iadd, 1), (124, .ireturn, 1)]
theorem dc_X7_walk : dnL cX7_walk dl_X7_walk = true := by decide +kernel
theorem d_X7_walk_0 : dn cX7_walk 0 (.aload_n 0) 1 1 := dnAt dc_X7_walk 0 rfl rfl
theorem d_X7_walk_1 : dn cX7_walk 1 (.iload_n 1) 1 2 := dnAt dc_X7_walk 1 rfl rfl
theorem d_X7_walk_2 : dn cX7_walk 2 (.invokevirtual 140) 3 5 := dnAt dc_X7_walk 2 rfl rfl
theorem d_X7_walk_5 : dn cX7_walk 5 (.ifCond .eq 14) 3 8 := dnAt dc_X7_walk 3 rfl rfl
theorem d_X7_walk_8 : dn cX7_walk 8 (.iload_n 2) 1 9 := dnAt dc_X7_walk 4 rfl rfl
theorem d_X7_walk_9 : dn cX7_walk 9 (.invokestatic 80) 3 12 := dnAt dc_X7_walk 5 rfl rfl
theorem d_X7_walk_12 : dn cX7_walk 12 (.ifCond .eq 7) 3 15 := dnAt dc_X7_walk 6 rfl rfl
theorem d_X7_walk_15 : dn cX7_walk 15 (.iconst 1) 1 16 := dnAt dc_X7_walk 7 rfl rfl
theorem d_X7_walk_16 : dn cX7_walk 16 (.goto 4) 3 19 := dnAt dc_X7_walk 8 rfl rfl
theorem d_X7_walk_19 : dn cX7_walk 19 (.iconst 0) 1 20 := dnAt dc_X7_walk 9 rfl rfl
theorem d_X7_walk_20 : dn cX7_walk 20 (.istore 5) 2 22 := dnAt dc_X7_walk 10 rfl rfl
theorem d_X7_walk_22 : dn cX7_walk 22 (.aload_n 0) 1 23 := dnAt dc_X7_walk 11 rfl rfl
theorem d_X7_walk_23 : dn cX7_walk 23 (.iload 5) 2 25 := dnAt dc_X7_walk 12 rfl rfl
theorem d_X7_walk_25 : dn cX7_walk 25 (.ifCond .ne 7) 3 28 := dnAt dc_X7_walk 13 rfl rfl
theorem d_X7_walk_28 : dn cX7_walk 28 (.iconst 1) 1 29 := dnAt dc_X7_walk 14 rfl rfl
theorem d_X7_walk_29 : dn cX7_walk 29 (.goto 15) 3 32 := dnAt dc_X7_walk 15 rfl rfl
theorem d_X7_walk_32 : dn cX7_walk 32 (.iload_n 3) 1 33 := dnAt dc_X7_walk 16 rfl rfl
theorem d_X7_walk_33 : dn cX7_walk 33 (.invokestatic 143) 3 36 := dnAt dc_X7_walk 17 rfl rfl
theorem d_X7_walk_36 : dn cX7_walk 36 (.ifCond .eq 7) 3 39 := dnAt dc_X7_walk 18 rfl rfl
theorem d_X7_walk_39 : dn cX7_walk 39 (.iconst 0) 1 40 := dnAt dc_X7_walk 19 rfl rfl
theorem d_X7_walk_40 : dn cX7_walk 40 (.goto 4) 3 43 := dnAt dc_X7_walk 20 rfl rfl
theorem d_X7_walk_43 : dn cX7_walk 43 (.iconst 2) 1 44 := dnAt dc_X7_walk 21 rfl rfl
theorem d_X7_walk_44 : dn cX7_walk 44 (.invokevirtual 84) 3 47 := dnAt dc_X7_walk 22 rfl rfl
theorem d_X7_walk_47 : dn cX7_walk 47 (.ifCond .ne 5) 3 50 := dnAt dc_X7_walk 23 rfl rfl
theorem d_X7_walk_50 : dn cX7_walk 50 (.iconst 0) 1 51 := dnAt dc_X7_walk 24 rfl rfl
theorem d_X7_walk_51 : dn cX7_walk 51 (.ireturn) 1 52 := dnAt dc_X7_walk 25 rfl rfl
theorem d_X7_walk_52 : dn cX7_walk 52 (.iconst 0) 1 53 := dnAt dc_X7_walk 26 rfl rfl
theorem d_X7_walk_53 : dn cX7_walk 53 (.istore 6) 2 55 := dnAt dc_X7_walk 27 rfl rfl
theorem d_X7_walk_55 : dn cX7_walk 55 (.iconst 0) 1 56 := dnAt dc_X7_walk 28 rfl rfl
theorem d_X7_walk_56 : dn cX7_walk 56 (.istore 7) 2 58 := dnAt dc_X7_walk 29 rfl rfl
theorem d_X7_walk_58 : dn cX7_walk 58 (.iconst 0) 1 59 := dnAt dc_X7_walk 30 rfl rfl
theorem d_X7_walk_59 : dn cX7_walk 59 (.istore 8) 2 61 := dnAt dc_X7_walk 31 rfl rfl
theorem d_X7_walk_61 : dn cX7_walk 61 (.iload 8) 2 63 := dnAt dc_X7_walk 32 rfl rfl
theorem d_X7_walk_63 : dn cX7_walk 63 (.aload_n 0) 1 64 := dnAt dc_X7_walk 33 rfl rfl
theorem d_X7_walk_64 : dn cX7_walk 64 (.getfield 7) 3 67 := dnAt dc_X7_walk 34 rfl rfl
theorem d_X7_walk_67 : dn cX7_walk 67 (.iload_n 2) 1 68 := dnAt dc_X7_walk 35 rfl rfl
theorem d_X7_walk_68 : dn cX7_walk 68 (.iaload) 1 69 := dnAt dc_X7_walk 36 rfl rfl
theorem d_X7_walk_69 : dn cX7_walk 69 (.if_icmp .ge 44) 3 72 := dnAt dc_X7_walk 37 rfl rfl
theorem d_X7_walk_72 : dn cX7_walk 72 (.aload_n 0) 1 73 := dnAt dc_X7_walk 38 rfl rfl
theorem d_X7_walk_73 : dn cX7_walk 73 (.iload_n 1) 1 74 := dnAt dc_X7_walk 39 rfl rfl
theorem d_X7_walk_74 : dn cX7_walk 74 (.iload_n 2) 1 75 := dnAt dc_X7_walk 40 rfl rfl
theorem d_X7_walk_75 : dn cX7_walk 75 (.iload 8) 2 77 := dnAt dc_X7_walk 41 rfl rfl
theorem d_X7_walk_77 : dn cX7_walk 77 (.iload_n 3) 1 78 := dnAt dc_X7_walk 42 rfl rfl
theorem d_X7_walk_78 : dn cX7_walk 78 (.iload 4) 2 80 := dnAt dc_X7_walk 43 rfl rfl
theorem d_X7_walk_80 : dn cX7_walk 80 (.invokevirtual 146) 3 83 := dnAt dc_X7_walk 44 rfl rfl
theorem d_X7_walk_83 : dn cX7_walk 83 (.istore 9) 2 85 := dnAt dc_X7_walk 45 rfl rfl
theorem d_X7_walk_85 : dn cX7_walk 85 (.iload 6) 2 87 := dnAt dc_X7_walk 46 rfl rfl
theorem d_X7_walk_87 : dn cX7_walk 87 (.iload 9) 2 89 := dnAt dc_X7_walk 47 rfl rfl
theorem d_X7_walk_89 : dn cX7_walk 89 (.ifCond .le 7) 3 92 := dnAt dc_X7_walk 48 rfl rfl
theorem d_X7_walk_92 : dn cX7_walk 92 (.iconst 1) 1 93 := dnAt dc_X7_walk 49 rfl rfl
theorem d_X7_walk_93 : dn cX7_walk 93 (.goto 4) 3 96 := dnAt dc_X7_walk 50 rfl rfl
theorem d_X7_walk_96 : dn cX7_walk 96 (.iconst 0) 1 97 := dnAt dc_X7_walk 51 rfl rfl
theorem d_X7_walk_97 : dn cX7_walk 97 (.iadd) 1 98 := dnAt dc_X7_walk 52 rfl rfl
theorem d_X7_walk_98 : dn cX7_walk 98 (.istore 6) 2 100 := dnAt dc_X7_walk 53 rfl rfl
theorem d_X7_walk_100 : dn cX7_walk 100 (.iload 7) 2 102 := dnAt dc_X7_walk 54 rfl rfl
theorem d_X7_walk_102 : dn cX7_walk 102 (.iload 9) 2 104 := dnAt dc_X7_walk 55 rfl rfl
theorem d_X7_walk_104 : dn cX7_walk 104 (.iadd) 1 105 := dnAt dc_X7_walk 56 rfl rfl
theorem d_X7_walk_105 : dn cX7_walk 105 (.istore 7) 2 107 := dnAt dc_X7_walk 57 rfl rfl
theorem d_X7_walk_107 : dn cX7_walk 107 (.iinc 8 1) 3 110 := dnAt dc_X7_walk 58 rfl rfl
theorem d_X7_walk_110 : dn cX7_walk 110 (.goto (-49)) 3 113 := dnAt dc_X7_walk 59 rfl rfl
theorem d_X7_walk_113 : dn cX7_walk 113 (.bipush 100) 2 115 := dnAt dc_X7_walk 60 rfl rfl
theorem d_X7_walk_115 : dn cX7_walk 115 (.iload 6) 2 117 := dnAt dc_X7_walk 61 rfl rfl
theorem d_X7_walk_117 : dn cX7_walk 117 (.imul) 1 118 := dnAt dc_X7_walk 62 rfl rfl
theorem d_X7_walk_118 : dn cX7_walk 118 (.iload 7) 2 120 := dnAt dc_X7_walk 63 rfl rfl
theorem d_X7_walk_120 : dn cX7_walk 120 (.bipush 100) 2 122 := dnAt dc_X7_walk 64 rfl rfl
theorem d_X7_walk_122 : dn cX7_walk 122 (.irem) 1 123 := dnAt dc_X7_walk 65 rfl rfl
theorem d_X7_walk_123 : dn cX7_walk 123 (.iadd) 1 124 := dnAt dc_X7_walk 66 rfl rfl
theorem d_X7_walk_124 : dn cX7_walk 124 (.ireturn) 1 125 := dnAt dc_X7_walk 67 rfl rfl
set_option maxHeartbeats 4000000 in
set_option maxRecDepth 100000 in
theorem m_walk (S : mS) (pat side bd : Int32) (L : Bool) (I : mInv S) : mC yX7_walk cX7_walk 10 (Option.some Jvm.ClassFile.FieldType.int) { frames := 4, cells := 0, slots := 0, locals := 109 } [.int pat, .int side, .int bd, .int (bI L)] S (fun v9 T9 => v9 = some (.int (nI (rWalk S pat side bd L))) ∧ ∃ f9, T9 = sI (uK S 0 (cWalk S pat side bd)) 19 f9) := by
  refine mC.of (by decide) (Nat.le_of_ble_eq_true rfl) ?_
  intro G x q h0 C A TY
  show VM G x q h0 S 0 [(0, .ref (q 0)), (1, .int pat), (2, .int side), (3, .int bd), (4, .int (bI L))] []
  have join_20 : VM G x q h0 S 20 [(0, .ref (q 0)), (1, .int pat), (2, .int side), (3, .int bd), (4, .int (bI L))] [.int (bI (mIsP S pat && inR side 0 1))] := by
    refine m_istore C d_X7_walk_20 (lv' := [(5, .int (bI (mIsP S pat && inR side 0 1))), (0, .ref (q 0)), (1, .int pat), (2, .int side), (3, .int bd), (4, .int (bI L))]) (by decide) rfl ?_
    have join_44 : VM G x q h0 S 44 [(0, .ref (q 0)), (1, .int pat), (2, .int side), (3, .int bd), (4, .int (bI L))] [.int (nI (cWalk S pat side bd)), .ref (q 0)] := by
      refine m_callV C d_X7_walk_44 ok_RX7_84 (m_holds S (cWalk S pat side bd) (by unfold cWalk; split <;> (try split) <;> omega)) rfl (rest := []) rfl rfl (Nat.le_of_ble_eq_true rfl) ⟨⟨by decide, by decide⟩, by decide, by decide⟩ (fun v9 T9 e9 => ?_)
      obtain ⟨rfl, e9⟩ := e9
      refine m_eq e9 ?_
      show VM G x q h0 (uK S 0 (cWalk S pat side bd)) 47 [(0, .ref (q 0)), (1, .int pat), (2, .int side), (3, .int bd), (4, .int (bI L))] [.int (bI (decide (cWalk S pat side bd = 0)))]
      refine mb_if_ne C d_X7_walk_47 (tgt := 52) rfl (fun c_47 => ?_) (fun c_47 => ?_)
      · skip
        have c0 := of_decide_eq_true c_47
        obtain ⟨e1, e2, e3, e4, e7, e8⟩ := cWalk_0 I c0
        have i1 := pats_le I
        have i2 := I.1 (tn side) e4
        rw [c0]
        refine m_lve (lv' := [(0, .ref (q 0)), (1, .int (nI (tn pat))), (2, .int (nI (tn side))), (3, .int (nI (tn bd))), (4, .int (bI L))]) (by rw [← e1, ← e3, ← e7]) ?_
        refine m_iconst C d_X7_walk_52 (v := (nI 0)) rfl ?_
        refine m_istore C d_X7_walk_53 (lv' := [(6, .int (nI 0)), (0, .ref (q 0)), (1, .int (nI (tn pat))), (2, .int (nI (tn side))), (3, .int (nI (tn bd))), (4, .int (bI L))]) (by decide) rfl ?_
        refine m_iconst C d_X7_walk_55 (v := (nI 0)) rfl ?_
        refine m_istore C d_X7_walk_56 (lv' := [(7, .int (nI 0)), (6, .int (nI 0)), (0, .ref (q 0)), (1, .int (nI (tn pat))), (2, .int (nI (tn side))), (3, .int (nI (tn bd))), (4, .int (bI L))]) (by decide) rfl ?_
        refine m_iconst C d_X7_walk_58 (v := (nI 0)) rfl ?_
        refine m_istore C d_X7_walk_59 (lv' := [(8, .int (nI 0)), (7, .int (nI 0)), (6, .int (nI 0)), (0, .ref (q 0)), (1, .int (nI (tn pat))), (2, .int (nI (tn side))), (3, .int (nI (tn bd))), (4, .int (bI L))]) (by decide) rfl ?_
        have loop_61 : ∀ (fuel : Nat) (k : Nat) (g : Nat → Int32), (k ≤ mN S 1 (tn side)) → (41 - k) < fuel → VM G x q h0 (sI (uK S 0 0) 19 g) 61 [(0, .ref (q 0)), (1, .int (nI (tn pat))), (2, .int (nI (tn side))), (3, .int (nI (tn bd))), (4, .int (bI L)), (6, .int (nI (nWalk S (tn pat) (tn side) (tn bd) L k))), (7, .int (nI (sWalk S (tn pat) (tn side) (tn bd) L k))), (8, .int (nI k))] [] := by
          intro fuel
          induction fuel with
          | zero => intro k g hk hf9; exact absurd hf9 (Nat.not_lt_zero _)
          | succ fuel ih_61 =>
            intro k g hk hf9
            refine m_iload C d_X7_walk_61 7 rfl ?_
            refine m_aload_n C d_X7_walk_63 0 rfl ?_
            refine m_get C d_X7_walk_64 fd_RX7_7 (v := .ref (q 1)) rfl ?_
            refine m_iload_n C d_X7_walk_67 2 rfl ?_
            refine m_ald C d_X7_walk_68 (k := 1) (by decide) rfl (by show _ < 2; omega) (by decide) ?_
            refine m_st (st' := [.int (nI (mN S 1 (tn side))), .int (nI k)]) rfl ?_
            refine mn_icmp_ge C d_X7_walk_69 (tgt := 113) rfl (by omega) (by omega) (fun c_69 => ?_) (fun c_69 => ?_)
            · skip
              obtain rfl : k = mN S 1 (tn side) := by omega
              refine m_bipush C d_X7_walk_113 (v := (nI 100)) rfl ?_
              refine m_iload C d_X7_walk_115 5 rfl ?_
              refine mn_imul C d_X7_walk_117 ?_
              refine m_iload C d_X7_walk_118 6 rfl ?_
              refine m_bipush C d_X7_walk_120 (v := (nI 100)) rfl ?_
              refine mn_irem C d_X7_walk_122 (by have := sumTo_le (f := fun j => mLong S (tn pat) (tn side) j (tn bd) L) (c := 8) (k := mN S 1 (tn side)) (fun j _ => mLong_le I.core (by omega)); unfold sWalk; omega) (by omega) (by omega) ?_
              refine mn_iadd C d_X7_walk_123 ?_
              exact m_iret C A TY d_X7_walk_124 rfl (⟨by rw [rWalk, if_pos c0], _, by rw [c0]⟩)
            · skip
              refine m_aload_n C d_X7_walk_72 0 rfl ?_
              refine m_iload_n C d_X7_walk_73 1 rfl ?_
              refine m_iload_n C d_X7_walk_74 2 rfl ?_
              refine m_iload C d_X7_walk_75 7 rfl ?_
              refine m_iload_n C d_X7_walk_77 3 rfl ?_
              refine m_iload C d_X7_walk_78 4 rfl ?_
              refine m_callV C d_X7_walk_80 ok_RX7_146 (m_longest (uK S 0 0) g (tn pat) (tn side) k (tn bd) L I.core (by omega) (by omega) (c_69) (by omega)) rfl (rest := []) rfl rfl (Nat.le_of_ble_eq_true rfl) ⟨⟨by decide, by decide⟩, by decide, by decide⟩ (fun v9 T9 e9 => ?_)
              obtain ⟨rfl, f9, rfl⟩ := e9
              show VM G x q h0 (sI (uK S 0 0) 19 f9) 83 [(0, .ref (q 0)), (1, .int (nI (tn pat))), (2, .int (nI (tn side))), (3, .int (nI (tn bd))), (4, .int (bI L)), (6, .int (nI (nWalk S (tn pat) (tn side) (tn bd) L k))), (7, .int (nI (sWalk S (tn pat) (tn side) (tn bd) L k))), (8, .int (nI k))] [.int (nI (mLong (uK S 0 0) (tn pat) (tn side) k (tn bd) L))]
              refine m_st (st' := [.int (nI (mLong S (tn pat) (tn side) k (tn bd) L))]) (by rw [mLong_c (S := uK S 0 0) (T := S) ⟨fun _ => rfl, fun _ => rfl, fun _ => rfl, fun _ => rfl, fun _ => rfl, fun _ => rfl, fun _ => rfl, fun _ => rfl, fun _ => rfl, fun _ => rfl⟩]) ?_
              have hl8 := mLong_le I.core (S := S) (pat := tn pat) (s := tn side) (p := k) (bd := tn bd) (L := L) (by omega)
              refine m_istore C d_X7_walk_83 (lv' := [(9, .int (nI (mLong S (tn pat) (tn side) k (tn bd) L))), (0, .ref (q 0)), (1, .int (nI (tn pat))), (2, .int (nI (tn side))), (3, .int (nI (tn bd))), (4, .int (bI L)), (6, .int (nI (nWalk S (tn pat) (tn side) (tn bd) L k))), (7, .int (nI (sWalk S (tn pat) (tn side) (tn bd) L k))), (8, .int (nI k))]) (by decide) rfl ?_
              have join_97 : VM G x q h0 (sI (uK S 0 0) 19 f9) 97 [(0, .ref (q 0)), (1, .int (nI (tn pat))), (2, .int (nI (tn side))), (3, .int (nI (tn bd))), (4, .int (bI L)), (7, .int (nI (sWalk S (tn pat) (tn side) (tn bd) L k))), (8, .int (nI k)), (9, .int (nI (mLong S (tn pat) (tn side) k (tn bd) L)))] [.int (nI (if 0 < mLong S (tn pat) (tn side) k (tn bd) L then 1 else 0)), .int (nI (nWalk S (tn pat) (tn side) (tn bd) L k))] := by
                refine mn_iadd C d_X7_walk_97 ?_
                refine m_istore C d_X7_walk_98 (lv' := [(6, .int (nI ((nWalk S (tn pat) (tn side) (tn bd) L k) + (if 0 < mLong S (tn pat) (tn side) k (tn bd) L then 1 else 0)))), (0, .ref (q 0)), (1, .int (nI (tn pat))), (2, .int (nI (tn side))), (3, .int (nI (tn bd))), (4, .int (bI L)), (7, .int (nI (sWalk S (tn pat) (tn side) (tn bd) L k))), (8, .int (nI k)), (9, .int (nI (mLong S (tn pat) (tn side) k (tn bd) L)))]) (by decide) rfl ?_
                refine m_iload C d_X7_walk_100 6 rfl ?_
                refine m_iload C d_X7_walk_102 8 rfl ?_
                refine mn_iadd C d_X7_walk_104 ?_
                refine m_istore C d_X7_walk_105 (lv' := [(7, .int (nI ((sWalk S (tn pat) (tn side) (tn bd) L k) + (mLong S (tn pat) (tn side) k (tn bd) L)))), (6, .int (nI ((nWalk S (tn pat) (tn side) (tn bd) L k) + (if 0 < mLong S (tn pat) (tn side) k (tn bd) L then 1 else 0)))), (0, .ref (q 0)), (1, .int (nI (tn pat))), (2, .int (nI (tn side))), (3, .int (nI (tn bd))), (4, .int (bI L)), (8, .int (nI k)), (9, .int (nI (mLong S (tn pat) (tn side) k (tn bd) L)))]) (by decide) rfl ?_
                refine mn_iinc C d_X7_walk_107 (lv' := [(8, .int (nI (k + 1))), (7, .int (nI ((sWalk S (tn pat) (tn side) (tn bd) L k) + (mLong S (tn pat) (tn side) k (tn bd) L)))), (6, .int (nI ((nWalk S (tn pat) (tn side) (tn bd) L k) + (if 0 < mLong S (tn pat) (tn side) k (tn bd) L then 1 else 0)))), (0, .ref (q 0)), (1, .int (nI (tn pat))), (2, .int (nI (tn side))), (3, .int (nI (tn bd))), (4, .int (bI L)), (9, .int (nI (mLong S (tn pat) (tn side) k (tn bd) L)))]) 7 rfl (nI_inc _ rfl) (by decide) rfl ?_
                refine m_goto C d_X7_walk_110 (tgt := 61) rfl ?_
                refine m_lv (lv' := [(0, .ref (q 0)), (1, .int (nI (tn pat))), (2, .int (nI (tn side))), (3, .int (nI (tn bd))), (4, .int (bI L)), (6, .int (nI ((nWalk S (tn pat) (tn side) (tn bd) L k) + (if 0 < mLong S (tn pat) (tn side) k (tn bd) L then 1 else 0)))), (7, .int (nI ((sWalk S (tn pat) (tn side) (tn bd) L k) + (mLong S (tn pat) (tn side) k (tn bd) L)))), (8, .int (nI (k + 1)))]) [3, 4, 5, 6, 7, 2, 1, 0] rfl ?_
                refine m_lve (lv' := [(0, .ref (q 0)), (1, .int (nI (tn pat))), (2, .int (nI (tn side))), (3, .int (nI (tn bd))), (4, .int (bI L)), (6, .int (nI (nWalk S (tn pat) (tn side) (tn bd) L (k + 1)))), (7, .int (nI (sWalk S (tn pat) (tn side) (tn bd) L (k + 1)))), (8, .int (nI (k + 1)))]) (rfl) ?_
                exact ih_61 (k + 1) f9 (by omega) (by omega)
              refine m_iload C d_X7_walk_85 6 rfl ?_
              refine m_iload C d_X7_walk_87 0 rfl ?_
              refine mn_if_le C d_X7_walk_89 (tgt := 96) rfl (by omega) (fun c_89 => ?_) (fun c_89 => ?_)
              · skip
                refine m_iconst C d_X7_walk_96 (v := (nI 0)) rfl ?_
                refine m_lv (lv' := [(0, .ref (q 0)), (1, .int (nI (tn pat))), (2, .int (nI (tn side))), (3, .int (nI (tn bd))), (4, .int (bI L)), (7, .int (nI (sWalk S (tn pat) (tn side) (tn bd) L k))), (8, .int (nI k)), (9, .int (nI (mLong S (tn pat) (tn side) k (tn bd) L)))]) [1, 2, 3, 4, 5, 7, 8, 0] rfl ?_
                refine m_st (st' := [.int (nI (if 0 < mLong S (tn pat) (tn side) k (tn bd) L then 1 else 0)), .int (nI (nWalk S (tn pat) (tn side) (tn bd) L k))]) (by rw [if_neg (by omega)]) ?_
                exact join_97  
              · skip
                refine m_iconst C d_X7_walk_92 (v := (nI 1)) rfl ?_
                refine m_goto C d_X7_walk_93 (tgt := 97) rfl ?_
                refine m_lv (lv' := [(0, .ref (q 0)), (1, .int (nI (tn pat))), (2, .int (nI (tn side))), (3, .int (nI (tn bd))), (4, .int (bI L)), (7, .int (nI (sWalk S (tn pat) (tn side) (tn bd) L k))), (8, .int (nI k)), (9, .int (nI (mLong S (tn pat) (tn side) k (tn bd) L)))]) [1, 2, 3, 4, 5, 7, 8, 0] rfl ?_
                refine m_st (st' := [.int (nI (if 0 < mLong S (tn pat) (tn side) k (tn bd) L then 1 else 0)), .int (nI (nWalk S (tn pat) (tn side) (tn bd) L k))]) (by rw [if_pos c_89]) ?_
                exact join_97  
        refine m_eq (S' := sI (uK S 0 0) 19 (fun z => mI S 19 z)) (sI_init (S := uK S 0 0) (g := fun z => mI S 19 z) (fun _ => rfl)) ?_
        refine m_lv (lv' := [(0, .ref (q 0)), (1, .int (nI (tn pat))), (2, .int (nI (tn side))), (3, .int (nI (tn bd))), (4, .int (bI L)), (6, .int (nI 0)), (7, .int (nI 0)), (8, .int (nI 0))]) [3, 4, 5, 6, 7, 2, 1, 0] rfl ?_
        refine m_lve (lv' := [(0, .ref (q 0)), (1, .int (nI (tn pat))), (2, .int (nI (tn side))), (3, .int (nI (tn bd))), (4, .int (bI L)), (6, .int (nI (nWalk S (tn pat) (tn side) (tn bd) L 0))), (7, .int (nI (sWalk S (tn pat) (tn side) (tn bd) L 0))), (8, .int (nI 0))]) (rfl) ?_
        exact loop_61 _ 0 (fun z => mI S 19 z) (by omega) (Nat.lt_succ_self _)
      · skip
        have c1 := of_decide_eq_false c_47
        refine m_iconst C d_X7_walk_50 (v := (nI 0)) rfl ?_
        exact m_iret C A TY d_X7_walk_51 rfl (⟨by rw [rWalk, if_neg c1], fun z => mI S 19 z, sI_init (fun _ => rfl)⟩)
    refine m_aload_n C d_X7_walk_22 1 rfl ?_
    refine m_iload C d_X7_walk_23 0 rfl ?_
    refine mb_if_ne C d_X7_walk_25 (tgt := 32) rfl (fun c_25 => ?_) (fun c_25 => ?_)
    · skip
      refine m_iload_n C d_X7_walk_32 4 rfl ?_
      refine m_callS C d_X7_walk_33 ok_RX7_143 (s_isBound bd) (rest := [.ref (q 0)]) rfl rfl (Nat.le_of_ble_eq_true rfl) ⟨⟨by decide, by decide⟩, by decide, by decide⟩ ?_
      show VM G x q h0 S 36 [(5, .int (bI (mIsP S pat && inR side 0 1))), (0, .ref (q 0)), (1, .int pat), (2, .int side), (3, .int bd), (4, .int (bI L))] [.int (bI (inR bd 0 2)), .ref (q 0)]
      refine mb_if_eq C d_X7_walk_36 (tgt := 43) rfl (fun c_36 => ?_) (fun c_36 => ?_)
      · skip
        refine m_iconst C d_X7_walk_43 (v := (nI 2)) rfl ?_
        refine m_lv (lv' := [(0, .ref (q 0)), (1, .int pat), (2, .int side), (3, .int bd), (4, .int (bI L))]) [1, 2, 3, 4, 5] rfl ?_
        refine m_st (st' := [.int (nI (cWalk S pat side bd)), .ref (q 0)]) (by rw [cWalk, if_pos c_25, c_36]; rfl) ?_
        exact join_44  
      · skip
        refine m_iconst C d_X7_walk_39 (v := (nI 0)) rfl ?_
        refine m_goto C d_X7_walk_40 (tgt := 44) rfl ?_
        refine m_lv (lv' := [(0, .ref (q 0)), (1, .int pat), (2, .int side), (3, .int bd), (4, .int (bI L))]) [1, 2, 3, 4, 5] rfl ?_
        refine m_st (st' := [.int (nI (cWalk S pat side bd)), .ref (q 0)]) (by rw [cWalk, if_pos c_25, c_36]; rfl) ?_
        exact join_44  
    · skip
      refine m_iconst C d_X7_walk_28 (v := (nI 1)) rfl ?_
      refine m_goto C d_X7_walk_29 (tgt := 44) rfl ?_
      refine m_lv (lv' := [(0, .ref (q 0)), (1, .int pat), (2, .int side), (3, .int bd), (4, .int (bI L))]) [1, 2, 3, 4, 5] rfl ?_
      refine m_st (st' := [.int (nI (cWalk S pat side bd)), .ref (q 0)]) (by rw [cWalk, if_neg (by rw [c_25]; decide)]) ?_
      exact join_44  
  refine m_aload_n C d_X7_walk_0 0 rfl ?_
  refine m_iload_n C d_X7_walk_1 1 rfl ?_
  refine m_callV C d_X7_walk_2 ok_RX7_140 (m_isPattern S pat) rfl (rest := []) rfl rfl (Nat.le_of_ble_eq_true rfl) ⟨⟨by decide, by decide⟩, by decide, by decide⟩ (fun v9 T9 e9 => ?_)
  obtain ⟨rfl, e9⟩ := e9
  refine m_eq e9 ?_
  show VM G x q h0 S 5 [(0, .ref (q 0)), (1, .int pat), (2, .int side), (3, .int bd), (4, .int (bI L))] [.int (bI (inI pat (nI 0) (nI (mK S 15) - nI 1)))]
  refine mb_if_eq C d_X7_walk_5 (tgt := 19) rfl (fun c_5 => ?_) (fun c_5 => ?_)
  · skip
    refine m_iconst C d_X7_walk_19 (v := (bI false)) rfl ?_
    refine m_st (st' := [.int (bI (mIsP S pat && inR side 0 1))]) (by rw [mIsP, c_5]; rfl) ?_
    exact join_20  
  · skip
    refine m_iload_n C d_X7_walk_8 2 rfl ?_
    refine m_callS C d_X7_walk_9 ok_RX7_80 (s_isSide side) (rest := []) rfl rfl (Nat.le_of_ble_eq_true rfl) ⟨⟨by decide, by decide⟩, by decide, by decide⟩ ?_
    show VM G x q h0 S 12 [(0, .ref (q 0)), (1, .int pat), (2, .int side), (3, .int bd), (4, .int (bI L))] [.int (bI (inR side 0 1))]
    refine mb_if_eq C d_X7_walk_12 (tgt := 19) rfl (fun c_12 => ?_) (fun c_12 => ?_)
    · skip
      refine m_iconst C d_X7_walk_19 (v := (bI false)) rfl ?_
      refine m_st (st' := [.int (bI (mIsP S pat && inR side 0 1))]) (by rw [mIsP, c_5, c_12]; rfl) ?_
      exact join_20  
    · skip
      refine m_iconst C d_X7_walk_15 (v := (bI true)) rfl ?_
      refine m_goto C d_X7_walk_16 (tgt := 20) rfl ?_
      refine m_st (st' := [.int (bI (mIsP S pat && inR side 0 1))]) (by rw [mIsP, c_5, c_12]; rfl) ?_
      exact join_20  
