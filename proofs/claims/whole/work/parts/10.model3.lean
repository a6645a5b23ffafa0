theorem tw_666 : (Jvm.Cond.fieldLink "CorpuslineModel" (22 : Nat) "CorpuslineModel" "isEnded" "[Z") ∈ TB := tb_of 666 (by decide +kernel) rfl
theorem tw_667 : (Jvm.Cond.fieldLink "CorpuslineModel" (26 : Nat) "CorpuslineModel" "isTextEnded" "[Z") ∈ TB := tb_of 667 (by decide +kernel) rfl
theorem tw_743 : (Jvm.Cond.methodLink "CorpuslineModel" (80 : Nat) ({ cls := "CorpuslineModel", name := "isSide", desc := "(I)Z" } : Jvm.MethodName)) ∈ TB := tb_of 743 (by decide +kernel) rfl
theorem tw_744 : (Jvm.Cond.static ({ cls := "CorpuslineModel", name := "isSide", desc := "(I)Z" } : Jvm.MethodName)) ∈ TB := tb_of 744 (by decide +kernel) rfl
theorem tw_745 : (Jvm.Cond.code ({ cls := "CorpuslineModel", name := "isSide", desc := "(I)Z" } : Jvm.MethodName) prog_9_method_5_code (1 : Nat) (Option.some Jvm.ClassFile.FieldType.boolean)) ∈ TB := tb_of 745 (by decide +kernel) rfl
theorem tw_746 : (Jvm.Cond.methodLink "CorpuslineModel" (84 : Nat) ({ cls := "CorpuslineModel", name := "holds", desc := "(I)Z" } : Jvm.MethodName)) ∈ TB := tb_of 746 (by decide +kernel) rfl
theorem tw_748 : (Jvm.Cond.instanceMethod ({ cls := "CorpuslineModel", name := "holds", desc := "(I)Z" } : Jvm.MethodName)) ∈ TB := tb_of 748 (by decide +kernel) rfl
theorem tw_749 : (Jvm.Cond.code ({ cls := "CorpuslineModel", name := "holds", desc := "(I)Z" } : Jvm.MethodName) prog_9_method_3_code (2 : Nat) (Option.some Jvm.ClassFile.FieldType.boolean)) ∈ TB := tb_of 749 (by decide +kernel) rfl
theorem tw_774 : (Jvm.Cond.methodLink "CorpuslineModel" (91 : Nat) ({ cls := "CorpuslineModel", name := "isAttribute", desc := "(I)Z" } : Jvm.MethodName)) ∈ TB := tb_of 774 (by decide +kernel) rfl
theorem tw_775 : (Jvm.Cond.static ({ cls := "CorpuslineModel", name := "isAttribute", desc := "(I)Z" } : Jvm.MethodName)) ∈ TB := tb_of 775 (by decide +kernel) rfl
theorem tw_776 : (Jvm.Cond.code ({ cls := "CorpuslineModel", name := "isAttribute", desc := "(I)Z" } : Jvm.MethodName) prog_9_method_6_code (1 : Nat) (Option.some Jvm.ClassFile.FieldType.boolean)) ∈ TB := tb_of 776 (by decide +kernel) rfl
theorem tw_777 : (Jvm.Cond.methodLink "CorpuslineModel" (94 : Nat) ({ cls := "CorpuslineModel", name := "valueOf", desc := "(III)I" } : Jvm.MethodName)) ∈ TB := tb_of 777 (by decide +kernel) rfl
theorem tw_779 : (Jvm.Cond.instanceMethod ({ cls := "CorpuslineModel", name := "valueOf", desc := "(III)I" } : Jvm.MethodName)) ∈ TB := tb_of 779 (by decide +kernel) rfl
theorem tw_780 : (Jvm.Cond.code ({ cls := "CorpuslineModel", name := "valueOf", desc := "(III)I" } : Jvm.MethodName) prog_9_method_13_code (4 : Nat) (Option.some Jvm.ClassFile.FieldType.int)) ∈ TB := tb_of 780 (by decide +kernel) rfl
theorem ts_18 : Cond.selects "CorpuslineModel" ({ cls := "CorpuslineModel", name := "holds", desc := "(I)Z" } : MethodName) ({ cls := "CorpuslineModel", name := "holds", desc := "(I)Z" } : MethodName) ∈ TB := tb_sel 18 (by decide +kernel) rfl
theorem ts_20 : Cond.selects "CorpuslineModel" ({ cls := "CorpuslineModel", name := "valueOf", desc := "(III)I" } : MethodName) ({ cls := "CorpuslineModel", name := "valueOf", desc := "(III)I" } : MethodName) ∈ TB := tb_sel 20 (by decide +kernel) rfl
theorem fd_RX7_22 : fdOk RX7 22 6 5 := ⟨_, _, _, rfl, by decide, cw_6, tw_666, rfl⟩
theorem fd_RX7_26 : fdOk RX7 26 6 6 := ⟨_, _, _, rfl, by decide, cw_6, tw_667, rfl⟩
theorem ok_RX7_80 : okS RX7 80 yX7_isSide cX7_isSide 1 (Option.some Jvm.ClassFile.FieldType.boolean) 1 := ⟨tw_743, tw_744, tw_5, tw_745, ⟨by decide, by decide, by decide +kernel⟩⟩
theorem ok_RX7_91 : okS RX7 91 yX7_isAttribute cX7_isAttribute 1 (Option.some Jvm.ClassFile.FieldType.boolean) 1 := ⟨tw_774, tw_775, tw_5, tw_776, ⟨by decide, by decide, by decide +kernel⟩⟩
theorem ok_RX7_84 : okV RX7 84 yX7_holds cX7_holds 2 (Option.some Jvm.ClassFile.FieldType.boolean) 1 := ⟨tw_746, tw_748, ts_18, tw_5, tw_749, ⟨by decide, by decide, by decide +kernel⟩⟩
theorem ok_RX7_94 : okV RX7 94 yX7_valueOf cX7_valueOf 4 (Option.some Jvm.ClassFile.FieldType.int) 3 := ⟨tw_777, tw_779, ts_20, tw_5, tw_780, ⟨by decide, by decide, by decide +kernel⟩⟩
def cSide (side : Int32) : Nat := if inR side 0 1 = true then 0 else 1
def rTokens (S : mS) (side : Int32) : Nat := if inR side 0 1 = true then mN S 1 (tn side) else 0
def cOccurs (side attr : Int32) : Nat := if inR side 0 1 = true then (if inR attr 0 2 = true then 0 else 2) else 1
theorem cOccurs_0 {side attr : Int32} (h : cOccurs side attr = 0) : inR side 0 1 = true ∧ inR attr 0 2 = true := by
  unfold cOccurs at h
  split at h
  · split at h
    · exact ⟨by assumption, by assumption⟩
    · omega
  · omega
def nOccurs (S : mS) (s a : Nat) (value : Int32) (k : Nat) : Nat := sumTo (fun p => if nI (mVal S s p a) = value then 1 else 0) k
def rOccurs (S : mS) (side attr value : Int32) : Nat := if cOccurs side attr = 0 then nOccurs S (tn side) (tn attr) value (mN S 1 (tn side)) else 0
def cEnd (S : mS) (side : Int32) : Nat := if inR side 0 1 = true then (if mN S 1 (tn side) = 0 then 2 else 0) else 1
theorem cEnd_0 {S : mS} {side : Int32} (h : cEnd S side = 0) : inR side 0 1 = true ∧ mN S 1 (tn side) ≠ 0 := by
  unfold cEnd at h
  split at h
  · split at h
    · omega
    · exact ⟨by assumption, by assumption⟩
  · omega
def rEnd (S : mS) (side : Int32) : Nat := if cEnd S side = 0 then mN S 1 (tn side) else 0
def tEnd (S : mS) (side : Int32) (t : Bool) : mS := if cEnd S side = 0 then uB (uB (uK S 0 0) 5 (tn side) true) 6 (tn side) (mB S 6 (tn side) || t) else uK S 0 (cEnd S side)
def cSent (S : mS) (side place : Int32) : Nat := if (inR side 0 1 && inI place (nI 0) (nI (mN S 1 (tn side)) - nI 1)) = true then 0 else 1
def rSent (S : mS) (side place : Int32) : Nat := if cSent S side place = 0 then mN S 3 (40 * tn side + tn place) else 0
/-- an index below a bound, as the reference asks for it -/
theorem inI_of {v : Int32} {m : Nat} (hm : m ≤ 1000) (h : inI v (nI 0) (nI m - nI 1) = true) : v = nI (tn v) ∧ tn v < m := by
  rcases Nat.eq_zero_or_pos m with rfl | h1
  · have : inI v (nI 0) (nI 0 - nI 1) = false := by
      cases hc : inI v (nI 0) (nI 0 - nI 1) with
      | false => rfl
      | true =>
        simp only [inI, Bool.and_eq_true, decide_eq_true_eq, Int32.le_iff_toInt_le] at hc
        have e1 : (nI 0 - nI 1).toInt = -1 := by decide
        have e2 : (nI 0).toInt = 0 := by decide
        omega
    rw [this] at h; cases h
  · rw [pk_sub h1] at h
    obtain ⟨e, -, l⟩ := inR_of (v := v) (a := 0) (b := m - 1) h (by omega) (by omega)
    exact ⟨e, by omega⟩
def cWR (S : mS) (r : Int32) : Nat := if mIsR S r = true then 0 else 1
theorem mIsR_of {S : mS} {r : Int32} (h : mIsR S r = true) : r = nI (tn r) ∧ tn r < 8 ∧ mI S 20 (tn r) ≠ -1 := by
  simp only [mIsR, Bool.and_eq_true, Bool.not_eq_true', decide_eq_false_iff_not] at h
  obtain ⟨e, -, l⟩ := inR_of h.1 (by omega) (by omega)
  exact ⟨e, by omega, h.2⟩
def rDrop (S : mS) (r : Int32) : Nat := if mIsR S r = true then mSize S (tn r) else 0
def tDrop (S : mS) (r : Int32) : mS := if mIsR S r = true then uI (uK S 0 0) 20 (tn r) (-1) else uK S 0 1
def rSz (S : mS) (r : Int32) : Int32 := if mIsR S r = true then nI (mSize S (tn r)) else -1
def cToken (S : mS) (side word kind root : Int32) : Nat := if inR side 0 1 = true then (if (inR word 0 99 && inR kind 0 9 && inR root 0 49) = true then (if mN S 1 (tn side) = 40 then 3 else 0) else 2) else 1
theorem cToken_0 {S : mS} {side word kind root : Int32} (h : cToken S side word kind root = 0) : inR side 0 1 = true ∧ inR word 0 99 = true ∧ inR kind 0 9 = true ∧ inR root 0 49 = true ∧ mN S 1 (tn side) ≠ 40 := by
  unfold cToken at h
  split at h
  · split at h
    · rename_i h2
      simp only [Bool.and_eq_true] at h2
      split at h
      · omega
      · exact ⟨by assumption, h2.1.1, h2.1.2, h2.2, by assumption⟩
    · omega
  · omega
def rToken (S : mS) (side word kind root : Int32) : Nat := if cToken S side word kind root = 0 then mN S 1 (tn side) else 0
def tToken (S : mS) (side word kind root : Int32) : mS :=
  if cToken S side word kind root = 0 then
    let s := tn side
    let at_ := 40 * s + mN S 1 s
    uN (uB (uB (uN (uN (uN (uN (uN (uK S 0 0) 2 (3 * at_ + 0) (tn word)) 2 (3 * at_ + 1) (tn kind)) 2 (3 * at_ + 2) (tn root))
      3 at_ (if mN S 1 s = 0 then 0 else mN S 3 (at_ - 1) + (mB S 5 s).toNat)) 4 at_ (if mN S 1 s = 0 then 0 else mN S 4 (at_ - 1) + (mB S 6 s).toNat)) 5 s false) 6 s false) 1 s (mN S 1 s + 1)
  else uK S 0 (cToken S side word kind root)
def cAlign (S : mS) (a b : Int32) : Nat := if (inI a (nI 0) (nI (mSents S 0) - nI 1) && inI b (nI 0) (nI (mSents S 1) - nI 1)) = true then 0 else 1
def nPairs (S : mS) (k : Nat) : Nat := sumTo (fun k => mN S 7 (k / 40) / 2 ^ (k % 40) % 2) k
def tAlign (S : mS) (a b : Int32) : mS := if cAlign S a b = 0 then uN (uK S 0 0) 7 (tn a) (mN S 7 (tn a) ||| 2 ^ tn b) else uK S 0 1
def rAlign (S : mS) (a b : Int32) : Nat := if cAlign S a b = 0 then nPairs (tAlign S a b) 1600 else 0
theorem mSents_le {S : mS} (I : mInv S) {s : Nat} (hs : s < 2) : mSents S s ≤ 40 := by
  unfold mSents
  split
  · omega
  · have h1 := I.1 s hs
    have h2 := I.2.2.1 (40 * s + mN S 1 s - 1) (by omega)
    omega
theorem mInv_uK0 {S : mS} {c : Nat} (I : mInv S) : mInv (uK S 0 c) := I
theorem or_lt {a b n : Nat} (ha : a < 2 ^ n) (hb : b < 2 ^ n) : a ||| b < 2 ^ n := Nat.or_lt_two_pow ha hb
theorem tAlign_lt {S : mS} {a b : Int32} (I : mInv S) (i : Nat) (hi : i < 40) : mN (tAlign S a b) 7 i < 1099511627776 := by
  unfold tAlign
  split
  · rename_i h
    have c1 : (inI a (nI 0) (nI (mSents S 0) - nI 1) && inI b (nI 0) (nI (mSents S 1) - nI 1)) = true := by
      unfold cAlign at h; split at h <;> first | assumption | omega
    rw [Bool.and_eq_true] at c1
    have i1 := mSents_le I (show 0 < 2 by decide)
    have i2 := mSents_le I (show 1 < 2 by decide)
    obtain ⟨e1, e2⟩ := inI_of (by omega) c1.1
    obtain ⟨e3, e4⟩ := inI_of (by omega) c1.2
    have h7 := I.2.2.2.2.1
    rw [mN_uN]
    split
    · have := h7 (tn a) (by omega)
      exact or_lt (n := 40) this (Nat.pow_lt_pow_right (by decide) (by omega))
    · exact h7 i hi
  · exact I.2.2.2.2.1 i hi

def dl_X7_tokens : List (Nat × Instr × Nat) := [(0, .aload_n 0, 1), (1, .iload_n 1, 1), (2, .invokestatic 80, 3), (5, .ifCond .eq 7, 3), (8, .iconst 0, 1), (9, .goto 4, 3), (12, .iconst 1, 1), (13, .invokevirtual 84, 3), (16, .ifCond .eq 12, 3), (19, .aload_n 0, 1), (20, .getfield 7, 3), (23, .iload_n 1, 1), (24, .iaload, 1), (25, .goto 4, 3), (28, .iconst 0, 1), (29, .ireturn, 1)]
theorem dc_X7_tokens : dnL cX7_tokens dl_X7_tokens = true := by decide +kernel
theorem d_X7_tokens_0 : dn cX7_tokens 0 (.aload_n 0) 1 1 := dnAt dc_X7_tokens 0 rfl rfl
theorem d_X7_tokens_1 : dn cX7_tokens 1 (.iload_n 1) 1 2 := dnAt dc_X7_tokens 1 rfl rfl
theorem d_X7_tokens_2 : dn cX7_tokens 2 (.invokestatic 80) 3 5 := dnAt dc_X7_tokens 2 rfl rfl
theorem d_X7_tokens_5 : dn cX7_tokens 5 (.ifCond .eq 7) 3 8 := dnAt dc_X7_tokens 3 rfl rfl
theorem d_X7_tokens_8 : dn cX7_tokens 8 (.iconst 0) 1 9 := dnAt dc_X7_tokens 4 rfl rfl
theorem d_X7_tokens_9 : dn cX7_tokens 9 (.goto 4) 3 12 := dnAt dc_X7_tokens 5 rfl rfl
theorem d_X7_tokens_12 : dn cX7_tokens 12 (.iconst 1) 1 13 := dnAt dc_X7_tokens 6 rfl rfl
theorem d_X7_tokens_13 : dn cX7_tokens 13 (.invokevirtual 84) 3 16 := dnAt dc_X7_tokens 7 rfl rfl
theorem d_X7_tokens_16 : dn cX7_tokens 16 (.ifCond .eq 12) 3 19 := dnAt dc_X7_tokens 8 rfl rfl
theorem d_X7_tokens_19 : dn cX7_tokens 19 (.aload_n 0) 1 20 := dnAt dc_X7_tokens 9 rfl rfl
theorem d_X7_tokens_20 : dn cX7_tokens 20 (.getfield 7) 3 23 := dnAt dc_X7_tokens 10 rfl rfl
theorem d_X7_tokens_23 : dn cX7_tokens 23 (.iload_n 1) 1 24 := dnAt dc_X7_tokens 11 rfl rfl
theorem d_X7_tokens_24 : dn cX7_tokens 24 (.iaload) 1 25 := dnAt dc_X7_tokens 12 rfl rfl
theorem d_X7_tokens_25 : dn cX7_tokens 25 (.goto 4) 3 28 := dnAt dc_X7_tokens 13 rfl rfl
theorem d_X7_tokens_28 : dn cX7_tokens 28 (.iconst 0) 1 29 := dnAt dc_X7_tokens 14 rfl rfl
theorem d_X7_tokens_29 : dn cX7_tokens 29 (.ireturn) 1 30 := dnAt dc_X7_tokens 15 rfl rfl
set_option maxHeartbeats 4000000 in
set_option maxRecDepth 100000 in
theorem m_tokens (S : mS) (side : Int32) : mC yX7_tokens cX7_tokens 2 (Option.some Jvm.ClassFile.FieldType.int) { frames := 2, cells := 0, slots := 0, locals := 42 } [.int side] S (fun v9 T9 => v9 = (some (.int (nI (rTokens S side)))) ∧ T9 = uK S 0 (cSide side)) := by
  refine mC.of (by decide) (Nat.le_of_ble_eq_true rfl) ?_
  intro G x q h0 C A TY
  show VM G x q h0 S 0 [(0, .ref (q 0)), (1, .int side)] []
  have join_13 : VM G x q h0 S 13 [(0, .ref (q 0)), (1, .int side)] [.int (nI (cSide side)), .ref (q 0)] := by
    refine m_callV C d_X7_tokens_13 ok_RX7_84 (m_holds S (cSide side) (by unfold cSide; split <;> omega)) rfl (rest := []) rfl rfl (Nat.le_of_ble_eq_true rfl) ⟨⟨by decide, by decide⟩, by decide, by decide⟩ (fun v9 T9 e9 => ?_)
    obtain ⟨rfl, e9⟩ := e9
    refine m_eq e9 ?_
    show VM G x q h0 (uK S 0 (cSide side)) 16 [(0, .ref (q 0)), (1, .int side)] [.int (bI (decide (cSide side = 0)))]
    refine mb_if_eq C d_X7_tokens_16 (tgt := 28) rfl (fun c_16 => ?_) (fun c_16 => ?_)
    · skip
      have c1 : ¬ inR side 0 1 = true := fun z => by rw [cSide, if_pos z] at c_16; exact absurd c_16 (by decide)
      refine m_iconst C d_X7_tokens_28 (v := (nI 0)) rfl ?_
      refine m_st (st' := [.int (nI (rTokens S side))]) (by first | rw [rTokens, if_pos c1] | rw [rTokens, if_neg c1]) ?_
      exact m_iret C A TY d_X7_tokens_29 rfl (⟨rfl, rfl⟩)
    · skip
      have c0 := of_decide_eq_true c_16
      have c1 : inR side 0 1 = true := by unfold cSide at c0; split at c0 <;> first | assumption | omega
      obtain ⟨e1, -, e2⟩ := inR_of c1 (by decide) (by decide)
      refine m_lve (lv' := [(0, .ref (q 0)), (1, .int (nI (tn side)))]) (by rw [← e1]) ?_
      refine m_aload_n C d_X7_tokens_19 0 rfl ?_
      refine m_get C d_X7_tokens_20 fd_RX7_7 (v := .ref (q 1)) rfl ?_
      refine m_iload_n C d_X7_tokens_23 1 rfl ?_
      refine m_ald C d_X7_tokens_24 (k := 1) (by decide) rfl (by show _ < 2; omega) (by decide) ?_
      refine m_st (st' := [.int (nI (mN S 1 (tn side)))]) rfl ?_
      refine m_goto C d_X7_tokens_25 (tgt := 29) rfl ?_
      refine m_st (st' := [.int (nI (rTokens S side))]) (by first | rw [rTokens, if_pos c1] | rw [rTokens, if_neg c1]) ?_
      exact m_iret C A TY d_X7_tokens_29 rfl (⟨rfl, rfl⟩)
  refine m_aload_n C d_X7_tokens_0 0 rfl ?_
  refine m_iload_n C d_X7_tokens_1 1 rfl ?_
  refine m_callS C d_X7_tokens_2 ok_RX7_80 (s_isSide side) (rest := [.ref (q 0)]) rfl rfl (Nat.le_of_ble_eq_true rfl) ⟨⟨by decide, by decide⟩, by decide, by decide⟩ ?_
  show VM G x q h0 S 5 [(0, .ref (q 0)), (1, .int side)] [.int (bI (inR side 0 1)), .ref (q 0)]
  refine mb_if_eq C d_X7_tokens_5 (tgt := 12) rfl (fun c_5 => ?_) (fun c_5 => ?_)
  · skip
    refine m_iconst C d_X7_tokens_12 (v := (nI 1)) rfl ?_
    refine m_st (st' := [.int (nI (cSide side)), .ref (q 0)]) (by first | rw [cSide, if_pos c_5] | rw [cSide, if_neg (by rw [c_5]; decide)]) ?_
    exact join_13  
  · skip
    refine m_iconst C d_X7_tokens_8 (v := (nI 0)) rfl ?_
    refine m_goto C d_X7_tokens_9 (tgt := 13) rfl ?_
    refine m_st (st' := [.int (nI (cSide side)), .ref (q 0)]) (by first | rw [cSide, if_pos c_5] | rw [cSide, if_neg (by rw [c_5]; decide)]) ?_
    exact join_13  
def dl_X7_sentenceOf : List (Nat × Instr × Nat) := [(0, .iload_n 1, 1), (1, .invokestatic 80, 3), (4, .ifCond .eq 23, 3), (7, .iload_n 2, 1), (8, .iconst 0, 1), (9, .aload_n 0, 1), (10, .getfield 7, 3), (13, .iload_n 1, 1), (14, .iaload, 1), (15, .iconst 1, 1), (16, .isub, 1), (17, .invokestatic 76, 3), (20, .ifCond .eq 7, 3), (23, .iconst 1, 1), (24, .goto 4, 3), (27, .iconst 0, 1), (28, .istore_n 3, 1), (29, .aload_n 0, 1), (30, .iload_n 3, 1), (31, .ifCond .eq 7, 3), (34, .iconst 0, 1), (35, .goto 4, 3), (38, .iconst 1, 1), (39, .invokevirtual 84, 3), (42, .ifCond .eq 17, 3), (45, .aload_n 0, 1), (46, .getfield 16, 3), (49, .bipush 40, 2), (51, .iload_n 1, 1), (52, .imul, 1), (53, .iload_n 2, 1), (54, .iadd, 1), (55, .iaload, 1), (56, .goto 4, 3), (59, .iconst 0, 1), (60, .ireturn, 1)]
theorem dc_X7_sentenceOf : dnL cX7_sentenceOf dl_X7_sentenceOf = true := by decide +kernel
theorem d_X7_sentenceOf_0 : dn cX7_sentenceOf 0 (.iload_n 1) 1 1 := dnAt dc_X7_sentenceOf 0 rfl rfl
theorem d_X7_sentenceOf_1 : dn cX7_sentenceOf 1 (.invokestatic 80) 3 4 := dnAt dc_X7_sentenceOf 1 rfl rfl
theorem d_X7_sentenceOf_4 : dn cX7_sentenceOf 4 (.ifCond .eq 23) 3 7 := dnAt dc_X7_sentenceOf 2 rfl rfl
theorem d_X7_sentenceOf_7 : dn cX7_sentenceOf 7 (.iload_n 2) 1 8 := dnAt dc_X7_sentenceOf 3 rfl rfl
theorem d_X7_sentenceOf_8 : dn cX7_sentenceOf 8 (.iconst 0) 1 9 := dnAt dc_X7_sentenceOf 4 rfl rfl
theorem d_X7_sentenceOf_9 : dn cX7_sentenceOf 9 (.aload_n 0) 1 10 := dnAt dc_X7_sentenceOf 5 rfl rfl
theorem d_X7_sentenceOf_10 : dn cX7_sentenceOf 10 (.getfield 7) 3 13 := dnAt dc_X7_sentenceOf 6 rfl rfl
theorem d_X7_sentenceOf_13 : dn cX7_sentenceOf 13 (.iload_n 1) 1 14 := dnAt dc_X7_sentenceOf 7 rfl rfl
theorem d_X7_sentenceOf_14 : dn cX7_sentenceOf 14 (.iaload) 1 15 := dnAt dc_X7_sentenceOf 8 rfl rfl
theorem d_X7_sentenceOf_15 : dn cX7_sentenceOf 15 (.iconst 1) 1 16 := dnAt dc_X7_sentenceOf 9 rfl rfl
theorem d_X7_sentenceOf_16 : dn cX7_sentenceOf 16 (.isub) 1 17 := dnAt dc_X7_sentenceOf 10 rfl rfl
theorem d_X7_sentenceOf_17 : dn cX7_sentenceOf 17 (.invokestatic 76) 3 20 := dnAt dc_X7_sentenceOf 11 rfl rfl
theorem d_X7_sentenceOf_20 : dn cX7_sentenceOf 20 (.ifCond .eq 7) 3 23 := dnAt dc_X7_sentenceOf 12 rfl rfl
theorem d_X7_sentenceOf_23 : dn cX7_sentenceOf 23 (.iconst 1) 1 24 := dnAt dc_X7_sentenceOf 13 rfl rfl
theorem d_X7_sentenceOf_24 : dn cX7_sentenceOf 24 (.goto 4) 3 27 := dnAt dc_X7_sentenceOf 14 rfl rfl
theorem d_X7_sentenceOf_27 : dn cX7_sentenceOf 27 (.iconst 0) 1 28 := dnAt dc_X7_sentenceOf 15 rfl rfl
theorem d_X7_sentenceOf_28 : dn cX7_sentenceOf 28 (.istore_n 3) 1 29 := dnAt dc_X7_sentenceOf 16 rfl rfl
theorem d_X7_sentenceOf_29 : dn cX7_sentenceOf 29 (.aload_n 0) 1 30 := dnAt dc_X7_sentenceOf 17 rfl rfl
theorem d_X7_sentenceOf_30 : dn cX7_sentenceOf 30 (.iload_n 3) 1 31 := dnAt dc_X7_sentenceOf 18 rfl rfl
theorem d_X7_sentenceOf_31 : dn cX7_sentenceOf 31 (.ifCond .eq 7) 3 34 := dnAt dc_X7_sentenceOf 19 rfl rfl
theorem d_X7_sentenceOf_34 : dn cX7_sentenceOf 34 (.iconst 0) 1 35 := dnAt dc_X7_sentenceOf 20 rfl rfl
theorem d_X7_sentenceOf_35 : dn cX7_sentenceOf 35 (.goto 4) 3 38 := dnAt dc_X7_sentenceOf 21 rfl rfl
theorem d_X7_sentenceOf_38 : dn cX7_sentenceOf 38 (.iconst 1) 1 39 := dnAt dc_X7_sentenceOf 22 rfl rfl
theorem d_X7_sentenceOf_39 : dn cX7_sentenceOf 39 (.invokevirtual 84) 3 42 := dnAt dc_X7_sentenceOf 23 rfl rfl
theorem d_X7_sentenceOf_42 : dn cX7_sentenceOf 42 (.ifCond .eq 17) 3 45 := dnAt dc_X7_sentenceOf 24 rfl rfl
theorem d_X7_sentenceOf_45 : dn cX7_sentenceOf 45 (.aload_n 0) 1 46 := dnAt dc_X7_sentenceOf 25 rfl rfl
theorem d_X7_sentenceOf_46 : dn cX7_sentenceOf 46 (.getfield 16) 3 49 := dnAt dc_X7_sentenceOf 26 rfl rfl
theorem d_X7_sentenceOf_49 : dn cX7_sentenceOf 49 (.bipush 40) 2 51 := dnAt dc_X7_sentenceOf 27 rfl rfl
theorem d_X7_sentenceOf_51 : dn cX7_sentenceOf 51 (.iload_n 1) 1 52 := dnAt dc_X7_sentenceOf 28 rfl rfl
theorem d_X7_sentenceOf_52 : dn cX7_sentenceOf 52 (.imul) 1 53 := dnAt dc_X7_sentenceOf 29 rfl rfl
theorem d_X7_sentenceOf_53 : dn cX7_sentenceOf 53 (.iload_n 2) 1 54 := dnAt dc_X7_sentenceOf 30 rfl rfl
theorem d_X7_sentenceOf_54 : dn cX7_sentenceOf 54 (.iadd) 1 55 := dnAt dc_X7_sentenceOf 31 rfl rfl
theorem d_X7_sentenceOf_55 : dn cX7_sentenceOf 55 (.iaload) 1 56 := dnAt dc_X7_sentenceOf 32 rfl rfl
theorem d_X7_sentenceOf_56 : dn cX7_sentenceOf 56 (.goto 4) 3 59 := dnAt dc_X7_sentenceOf 33 rfl rfl
theorem d_X7_sentenceOf_59 : dn cX7_sentenceOf 59 (.iconst 0) 1 60 := dnAt dc_X7_sentenceOf 34 rfl rfl
theorem d_X7_sentenceOf_60 : dn cX7_sentenceOf 60 (.ireturn) 1 61 := dnAt dc_X7_sentenceOf 35 rfl rfl
set_option maxHeartbeats 4000000 in
set_option maxRecDepth 100000 in
theorem m_sentenceOf (S : mS) (side place : Int32) (I : mInv S) : mC yX7_sentenceOf cX7_sentenceOf 4 (Option.some Jvm.ClassFile.FieldType.int) { frames := 2, cells := 0, slots := 0, locals := 42 } [.int side, .int place] S (fun v9 T9 => v9 = (some (.int (nI (rSent S side place)))) ∧ T9 = uK S 0 (cSent S side place)) := by
  refine mC.of (by decide) (Nat.le_of_ble_eq_true rfl) ?_
  intro G x q h0 C A TY
  show VM G x q h0 S 0 [(0, .ref (q 0)), (1, .int side), (2, .int place)] []
  have join_28 : VM G x q h0 S 28 [(0, .ref (q 0)), (1, .int side), (2, .int place)] [.int (bI (inR side 0 1 && inI place (nI 0) (nI (mN S 1 (tn side)) - nI 1)))] := by
    refine m_istore_n C d_X7_sentenceOf_28 (lv' := [(3, .int (bI (inR side 0 1 && inI place (nI 0) (nI (mN S 1 (tn side)) - nI 1)))), (0, .ref (q 0)), (1, .int side), (2, .int place)]) (by decide) rfl ?_
    have join_39 : VM G x q h0 S 39 [(0, .ref (q 0)), (1, .int side), (2, .int place)] [.int (nI (cSent S side place)), .ref (q 0)] := by
      refine m_callV C d_X7_sentenceOf_39 ok_RX7_84 (m_holds S (cSent S side place) (by unfold cSent; split <;> omega)) rfl (rest := []) rfl rfl (Nat.le_of_ble_eq_true rfl) ⟨⟨by decide, by decide⟩, by decide, by decide⟩ (fun v9 T9 e9 => ?_)
      obtain ⟨rfl, e9⟩ := e9
      refine m_eq e9 ?_
      show VM G x q h0 (uK S 0 (cSent S side place)) 42 [(0, .ref (q 0)), (1, .int side), (2, .int place)] [.int (bI (decide (cSent S side place = 0)))]
      refine mb_if_eq C d_X7_sentenceOf_42 (tgt := 59) rfl (fun c_42 => ?_) (fun c_42 => ?_)
      · skip
        have c1 := of_decide_eq_false c_42
        refine m_iconst C d_X7_sentenceOf_59 (v := (nI 0)) rfl ?_
        refine m_st (st' := [.int (nI (rSent S side place))]) (by first | rw [rSent, if_pos c0] | rw [rSent, if_neg c1]) ?_
        exact m_iret C A TY d_X7_sentenceOf_60 rfl (⟨rfl, rfl⟩)
      · skip
        have c0 := of_decide_eq_true c_42
        have c1 : (inR side 0 1 && inI place (nI 0) (nI (mN S 1 (tn side)) - nI 1)) = true := by unfold cSent at c0; split at c0 <;> first | assumption | omega
        rw [Bool.and_eq_true] at c1
        obtain ⟨e1, -, e2⟩ := inR_of c1.1 (by decide) (by decide)
        have i1 := I.1 (tn side) (by omega)
        obtain ⟨e3, e4⟩ := inI_of (by omega) c1.2
        refine m_lve (lv' := [(0, .ref (q 0)), (1, .int (nI (tn side))), (2, .int (nI (tn place)))]) (by rw [← e1, ← e3]) ?_
        refine m_aload_n C d_X7_sentenceOf_45 0 rfl ?_
        refine m_get C d_X7_sentenceOf_46 fd_RX7_16 (v := .ref (q 3)) rfl ?_
        refine m_bipush C d_X7_sentenceOf_49 (v := (nI 40)) rfl ?_
        refine m_iload_n C d_X7_sentenceOf_51 1 rfl ?_
        refine mn_imul C d_X7_sentenceOf_52 ?_
        refine m_iload_n C d_X7_sentenceOf_53 2 rfl ?_
        refine mn_iadd C d_X7_sentenceOf_54 ?_
        refine m_ald C d_X7_sentenceOf_55 (k := 3) (by decide) rfl (by show _ < 80; omega) (by decide) ?_
        refine m_st (st' := [.int (nI (mN S 3 ((40 * (tn side)) + (tn place))))]) rfl ?_
        refine m_goto C d_X7_sentenceOf_56 (tgt := 60) rfl ?_
        refine m_st (st' := [.int (nI (rSent S side place))]) (by first | rw [rSent, if_pos c0] | rw [rSent, if_neg c1]) ?_
        exact m_iret C A TY d_X7_sentenceOf_60 rfl (⟨rfl, rfl⟩)
    refine m_aload_n C d_X7_sentenceOf_29 1 rfl ?_
    refine m_iload_n C d_X7_sentenceOf_30 0 rfl ?_
    refine mb_if_eq C d_X7_sentenceOf_31 (tgt := 38) rfl (fun c_31 => ?_) (fun c_31 => ?_)
    · skip
      refine m_iconst C d_X7_sentenceOf_38 (v := (nI 1)) rfl ?_
      refine m_lv (lv' := [(0, .ref (q 0)), (1, .int side), (2, .int place)]) [1, 2, 3] rfl ?_
      refine m_st (st' := [.int (nI (cSent S side place)), .ref (q 0)]) (by first | rw [cSent, if_pos c_31] | rw [cSent, if_neg (by rw [c_31]; decide)]) ?_
      exact join_39  
    · skip
      refine m_iconst C d_X7_sentenceOf_34 (v := (nI 0)) rfl ?_
      refine m_goto C d_X7_sentenceOf_35 (tgt := 39) rfl ?_
      refine m_lv (lv' := [(0, .ref (q 0)), (1, .int side), (2, .int place)]) [1, 2, 3] rfl ?_
      refine m_st (st' := [.int (nI (cSent S side place)), .ref (q 0)]) (by first | rw [cSent, if_pos c_31] | rw [cSent, if_neg (by rw [c_31]; decide)]) ?_
      exact join_39  
  refine m_iload_n C d_X7_sentenceOf_0 1 rfl ?_
  refine m_callS C d_X7_sentenceOf_1 ok_RX7_80 (s_isSide side) (rest := []) rfl rfl (Nat.le_of_ble_eq_true rfl) ⟨⟨by decide, by decide⟩, by decide, by decide⟩ ?_
  show VM G x q h0 S 4 [(0, .ref (q 0)), (1, .int side), (2, .int place)] [.int (bI (inR side 0 1))]
  refine mb_if_eq C d_X7_sentenceOf_4 (tgt := 27) rfl (fun c_4 => ?_) (fun c_4 => ?_)
  · skip
    refine m_iconst C d_X7_sentenceOf_27 (v := (bI false)) rfl ?_
    refine m_st (st' := [.int (bI (inR side 0 1 && inI place (nI 0) (nI (mN S 1 (tn side)) - nI 1)))]) (by first | rw [c_4, c_20]; rfl | (rw [c_4]; rfl)) ?_
    exact join_28  
  · skip
    obtain ⟨e1, -, e2⟩ := inR_of c_4 (by decide) (by decide)
    refine m_lve (lv' := [(0, .ref (q 0)), (1, .int (nI (tn side))), (2, .int place)]) (by rw [← e1]) ?_
    refine m_iload_n C d_X7_sentenceOf_7 2 rfl ?_
    refine m_iconst C d_X7_sentenceOf_8 (v := (nI 0)) rfl ?_
    refine m_aload_n C d_X7_sentenceOf_9 0 rfl ?_
    refine m_get C d_X7_sentenceOf_10 fd_RX7_7 (v := .ref (q 1)) rfl ?_
    refine m_iload_n C d_X7_sentenceOf_13 1 rfl ?_
    refine m_ald C d_X7_sentenceOf_14 (k := 1) (by decide) rfl (by show _ < 2; omega) (by decide) ?_
    refine m_iconst C d_X7_sentenceOf_15 (v := (nI 1)) rfl ?_
    refine m_isub C d_X7_sentenceOf_16 ?_
    refine m_callS C d_X7_sentenceOf_17 ok_RX7_76 (s_isIn place ((nI 0)) (((nI (mN S 1 (tn side))) - (nI 1)))) (rest := []) rfl rfl (Nat.le_of_ble_eq_true rfl) ⟨⟨by decide, by decide⟩, by decide, by decide⟩ ?_
    show VM G x q h0 S 20 [(0, .ref (q 0)), (1, .int (nI (tn side))), (2, .int place)] [.int (bI (inI place (nI 0) ((nI (mN S 1 (tn side))) - (nI 1))))]
    refine mb_if_eq C d_X7_sentenceOf_20 (tgt := 27) rfl (fun c_20 => ?_) (fun c_20 => ?_)
    · skip
      refine m_iconst C d_X7_sentenceOf_27 (v := (bI false)) rfl ?_
      refine m_lve (lv' := [(0, .ref (q 0)), (1, .int side), (2, .int place)]) (by rw [← e1]) ?_
      refine m_st (st' := [.int (bI (inR side 0 1 && inI place (nI 0) (nI (mN S 1 (tn side)) - nI 1)))]) (by first | rw [c_4, c_20]; rfl | (rw [c_4]; rfl)) ?_
      exact join_28  
    · skip
      refine m_iconst C d_X7_sentenceOf_23 (v := (bI true)) rfl ?_
      refine m_goto C d_X7_sentenceOf_24 (tgt := 28) rfl ?_
      refine m_lve (lv' := [(0, .ref (q 0)), (1, .int side), (2, .int place)]) (by rw [← e1]) ?_
      refine m_st (st' := [.int (bI (inR side 0 1 && inI place (nI 0) (nI (mN S 1 (tn side)) - nI 1)))]) (by first | rw [c_4, c_20]; rfl | (rw [c_4]; rfl)) ?_
      exact join_28  
def dl_X7_occurs : List (Nat × Instr × Nat) := [(0, .aload_n 0, 1), (1, .iload_n 1, 1), (2, .invokestatic 80, 3), (5, .ifCond .ne 7, 3), (8, .iconst 1, 1), (9, .goto 15, 3), (12, .iload_n 2, 1), (13, .invokestatic 91, 3), (16, .ifCond .eq 7, 3), (19, .iconst 0, 1), (20, .goto 4, 3), (23, .iconst 2, 1), (24, .invokevirtual 84, 3), (27, .ifCond .ne 5, 3), (30, .iconst 0, 1), (31, .ireturn, 1), (32, .iconst 0, 1), (33, .istore 4, 2), (35, .iconst 0, 1), (36, .istore 5, 2), (38, .iload 5, 2), (40, .aload_n 0, 1), (41, .getfield 7, 3), (44, .iload_n 1, 1), (45, .iaload, 1), (46, .if_icmp .ge 31, 3), (49, .iload 4, 2), (51, .aload_n 0, 1), (52, .iload_n 1, 1), (53, .iload 5, 2), (55, .iload_n 2, 1), (56, .invokevirtual 94, 3), (59, .iload_n 3, 1), (60, .if_icmp .ne 7, 3), (63, .iconst 1, 1), (64, .goto 4, 3), (67, .iconst 0, 1), (68, .iadd, 1), (69, .istore 4, 2), (71, .iinc 5 1, 3), (74, .goto (-36), 3), (77, .iload 4, 2), (79, .ireturn, 1)]
theorem dc_X7_occurs : dnL cX7_occurs dl_X7_occurs = true := by decide +kernel
theorem d_X7_occurs_0 : dn cX7_occurs 0 (.aload_n 0) 1 1 := dnAt dc_X7_occurs 0 rfl rfl
theorem d_X7_occurs_1 : dn cX7_occurs 1 (.iload_n 1) 1 2 := dnAt dc_X7_occurs 1 rfl rfl
theorem d_X7_occurs_2 : dn cX7_occurs 2 (.invokestatic 80) 3 5 := dnAt dc_X7_occurs 2 rfl rfl
theorem d_X7_occurs_5 : dn cX7_occurs 5 (.ifCond .ne 7) 3 8 := dnAt dc_X7_occurs 3 rfl rfl
theorem d_X7_occurs_8 : dn cX7_occurs 8 (.iconst 1) 1 9 := dnAt dc_X7_occurs 4 rfl rfl
theorem d_X7_occurs_9 : dn cX7_occurs 9 (.goto 15) 3 12 := dnAt dc_X7_occurs 5 rfl rfl
theorem d_X7_occurs_12 : dn cX7_occurs 12 (.iload_n 2) 1 13 := dnAt dc_X7_occurs 6 rfl rfl
theorem d_X7_occurs_13 : dn cX7_occurs 13 (.invokestatic 91) 3 16 := dnAt dc_X7_occurs 7 rfl rfl
theorem d_X7_occurs_16 : dn cX7_occurs 16 (.ifCond .eq 7) 3 19 := dnAt dc_X7_occurs 8 rfl rfl
theorem d_X7_occurs_19 : dn cX7_occurs 19 (.iconst 0) 1 20 := dnAt dc_X7_occurs 9 rfl rfl
theorem d_X7_occurs_20 : dn cX7_occurs 20 (.goto 4) 3 23 := dnAt dc_X7_occurs 10 rfl rfl
theorem d_X7_occurs_23 : dn cX7_occurs 23 (.iconst 2) 1 24 := dnAt dc_X7_occurs 11 rfl rfl
theorem d_X7_occurs_24 : dn cX7_occurs 24 (.invokevirtual 84) 3 27 := dnAt dc_X7_occurs 12 rfl rfl
theorem d_X7_occurs_27 : dn cX7_occurs 27 (.ifCond .ne 5) 3 30 := dnAt dc_X7_occurs 13 rfl rfl
theorem d_X7_occurs_30 : dn cX7_occurs 30 (.iconst 0) 1 31 := dnAt dc_X7_occurs 14 rfl rfl
theorem d_X7_occurs_31 : dn cX7_occurs 31 (.ireturn) 1 32 := dnAt dc_X7_occurs 15 rfl rfl
theorem d_X7_occurs_32 : dn cX7_occurs 32 (.iconst 0) 1 33 := dnAt dc_X7_occurs 16 rfl rfl
theorem d_X7_occurs_33 : dn cX7_occurs 33 (.istore 4) 2 35 := dnAt dc_X7_occurs 17 rfl rfl
theorem d_X7_occurs_35 : dn cX7_occurs 35 (.iconst 0) 1 36 := dnAt dc_X7_occurs 18 rfl rfl
theorem d_X7_occurs_36 : dn cX7_occurs 36 (.istore 5) 2 38 := dnAt dc_X7_occurs 19 rfl rfl
theorem d_X7_occurs_38 : dn cX7_occurs 38 (.iload 5) 2 40 := dnAt dc_X7_occurs 20 rfl rfl
theorem d_X7_occurs_40 : dn cX7_occurs 40 (.aload_n 0) 1 41 := dnAt dc_X7_occurs 21 rfl rfl
theorem d_X7_occurs_41 : dn cX7_occurs 41 (.getfield 7) 3 44 := dnAt dc_X7_occurs 22 rfl rfl
theorem d_X7_occurs_44 : dn cX7_occurs 44 (.iload_n 1) 1 45 := dnAt dc_X7_occurs 23 rfl rfl
theorem d_X7_occurs_45 : dn cX7_occurs 45 (.iaload) 1 46 := dnAt dc_X7_occurs 24 rfl rfl
theorem d_X7_occurs_46 : dn cX7_occurs 46 (.if_icmp .ge 31) 3 49 := dnAt dc_X7_occurs 25 rfl rfl
theorem d_X7_occurs_49 : dn cX7_occurs 49 (.iload 4) 2 51 := dnAt dc_X7_occurs 26 rfl rfl
theorem d_X7_occurs_51 : dn cX7_occurs 51 (.aload_n 0) 1 52 := dnAt dc_X7_occurs 27 rfl rfl
theorem d_X7_occurs_52 : dn cX7_occurs 52 (.iload_n 1) 1 53 := dnAt dc_X7_occurs 28 rfl rfl
theorem d_X7_occurs_53 : dn cX7_occurs 53 (.iload 5) 2 55 := dnAt dc_X7_occurs 29 rfl rfl
theorem d_X7_occurs_55 : dn cX7_occurs 55 (.iload_n 2) 1 56 := dnAt dc_X7_occurs 30 rfl rfl
theorem d_X7_occurs_56 : dn cX7_occurs 56 (.invokevirtual 94) 3 59 := dnAt dc_X7_occurs 31 rfl rfl
theorem d_X7_occurs_59 : dn cX7_occurs 59 (.iload_n 3) 1 60 := dnAt dc_X7_occurs 32 rfl rfl
theorem d_X7_occurs_60 : dn cX7_occurs 60 (.if_icmp .ne 7) 3 63 := dnAt dc_X7_occurs 33 rfl rfl
theorem d_X7_occurs_63 : dn cX7_occurs 63 (.iconst 1) 1 64 := dnAt dc_X7_occurs 34 rfl rfl
theorem d_X7_occurs_64 : dn cX7_occurs 64 (.goto 4) 3 67 := dnAt dc_X7_occurs 35 rfl rfl
theorem d_X7_occurs_67 : dn cX7_occurs 67 (.iconst 0) 1 68 := dnAt dc_X7_occurs 36 rfl rfl
theorem d_X7_occurs_68 : dn cX7_occurs 68 (.iadd) 1 69 := dnAt dc_X7_occurs 37 rfl rfl
theorem d_X7_occurs_69 : dn cX7_occurs 69 (.istore 4) 2 71 := dnAt dc_X7_occurs 38 rfl rfl
theorem d_X7_occurs_71 : dn cX7_occurs 71 (.iinc 5 1) 3 74 := dnAt dc_X7_occurs 39 rfl rfl
theorem d_X7_occurs_74 : dn cX7_occurs 74 (.goto (-36)) 3 77 := dnAt dc_X7_occurs 40 rfl rfl
theorem d_X7_occurs_77 : dn cX7_occurs 77 (.iload 4) 2 79 := dnAt dc_X7_occurs 41 rfl rfl
theorem d_X7_occurs_79 : dn cX7_occurs 79 (.ireturn) 1 80 := dnAt dc_X7_occurs 42 rfl rfl
set_option maxHeartbeats 4000000 in
set_option maxRecDepth 100000 in
theorem m_occurs (S : mS) (side attr value : Int32) (I : mInv S) : mC yX7_occurs cX7_occurs 6 (Option.some Jvm.ClassFile.FieldType.int) { frames := 2, cells := 0, slots := 0, locals := 42 } [.int side, .int attr, .int value] S (fun v9 T9 => v9 = (some (.int (nI (rOccurs S side attr value)))) ∧ T9 = uK S 0 (cOccurs side attr)) := by
  refine mC.of (by decide) (Nat.le_of_ble_eq_true rfl) ?_
  intro G x q h0 C A TY
  show VM G x q h0 S 0 [(0, .ref (q 0)), (1, .int side), (2, .int attr), (3, .int value)] []
  refine m_aload_n C d_X7_occurs_0 0 rfl ?_
  have join_24 : VM G x q h0 S 24 [(0, .ref (q 0)), (1, .int side), (2, .int attr), (3, .int value)] [.int (nI (cOccurs side attr)), .ref (q 0)] := by
    refine m_callV C d_X7_occurs_24 ok_RX7_84 (m_holds S (cOccurs side attr) (by unfold cOccurs; split <;> (try split) <;> omega)) rfl (rest := []) rfl rfl (Nat.le_of_ble_eq_true rfl) ⟨⟨by decide, by decide⟩, by decide, by decide⟩ (fun v9 T9 e9 => ?_)
    obtain ⟨rfl, e9⟩ := e9
    refine m_eq e9 ?_
    show VM G x q h0 (uK S 0 (cOccurs side attr)) 27 [(0, .ref (q 0)), (1, .int side), (2, .int attr), (3, .int value)] [.int (bI (decide (cOccurs side attr = 0)))]
    refine mb_if_ne C d_X7_occurs_27 (tgt := 32) rfl (fun c_27 => ?_) (fun c_27 => ?_)
    · skip
      have c0 := of_decide_eq_true c_27
      obtain ⟨c1, c2⟩ := cOccurs_0 c0
      obtain ⟨e1, -, e2⟩ := inR_of c1 (by decide) (by decide)
      obtain ⟨e3, -, e4⟩ := inR_of c2 (by decide) (by decide)
      have i1 := I.1 (tn side) (by omega)
      refine m_lve (lv' := [(0, .ref (q 0)), (1, .int (nI (tn side))), (2, .int (nI (tn attr))), (3, .int value)]) (by rw [← e1, ← e3]) ?_
      refine m_iconst C d_X7_occurs_32 (v := (nI 0)) rfl ?_
      refine m_istore C d_X7_occurs_33 (lv' := [(4, .int (nI 0)), (0, .ref (q 0)), (1, .int (nI (tn side))), (2, .int (nI (tn attr))), (3, .int value)]) (by decide) rfl ?_
      refine m_iconst C d_X7_occurs_35 (v := (nI 0)) rfl ?_
      refine m_istore C d_X7_occurs_36 (lv' := [(5, .int (nI 0)), (4, .int (nI 0)), (0, .ref (q 0)), (1, .int (nI (tn side))), (2, .int (nI (tn attr))), (3, .int value)]) (by decide) rfl ?_
      have loop_38 : ∀ (fuel : Nat) (k : Nat), (k ≤ mN S 1 (tn side)) → (41 - k) < fuel → VM G x q h0 (uK S 0 (cOccurs side attr)) 38 [(0, .ref (q 0)), (1, .int (nI (tn side))), (2, .int (nI (tn attr))), (3, .int value), (4, .int (nI (nOccurs S (tn side) (tn attr) value k))), (5, .int (nI k))] [] := by
        intro fuel
        induction fuel with
        | zero => intro k hk hf9; exact absurd hf9 (Nat.not_lt_zero _)
        | succ fuel ih_38 =>
          intro k hk hf9
          refine m_iload C d_X7_occurs_38 5 rfl ?_
          refine m_aload_n C d_X7_occurs_40 0 rfl ?_
          refine m_get C d_X7_occurs_41 fd_RX7_7 (v := .ref (q 1)) rfl ?_
          refine m_iload_n C d_X7_occurs_44 1 rfl ?_
          refine m_ald C d_X7_occurs_45 (k := 1) (by decide) rfl (by show _ < 2; omega) (by decide) ?_
          refine m_st (st' := [.int (nI (mN S 1 (tn side))), .int (nI k)]) rfl ?_
          refine mn_icmp_ge C d_X7_occurs_46 (tgt := 77) rfl (by omega) (by omega) (fun c_46 => ?_) (fun c_46 => ?_)
          · skip
            refine m_iload C d_X7_occurs_77 4 rfl ?_
            have e9 : k = mN S 1 (tn side) := by omega
            subst e9
            refine m_st (st' := [.int (nI (rOccurs S side attr value))]) (by rw [rOccurs, if_pos c0]) ?_
            exact m_iret C A TY d_X7_occurs_79 rfl (⟨rfl, rfl⟩)
          · skip
            have join_68 : VM G x q h0 (uK S 0 (cOccurs side attr)) 68 [(0, .ref (q 0)), (1, .int (nI (tn side))), (2, .int (nI (tn attr))), (3, .int value), (4, .int (nI (nOccurs S (tn side) (tn attr) value k))), (5, .int (nI k))] [.int (nI (if nI (mVal S (tn side) k (tn attr)) = value then 1 else 0)), .int (nI (nOccurs S (tn side) (tn attr) value k))] := by
              refine mn_iadd C d_X7_occurs_68 ?_
              refine m_istore C d_X7_occurs_69 (lv' := [(4, .int (nI ((nOccurs S (tn side) (tn attr) value k) + (if nI (mVal S (tn side) k (tn attr)) = value then 1 else 0)))), (0, .ref (q 0)), (1, .int (nI (tn side))), (2, .int (nI (tn attr))), (3, .int value), (5, .int (nI k))]) (by decide) rfl ?_
              refine mn_iinc C d_X7_occurs_71 (lv' := [(5, .int (nI (k + 1))), (4, .int (nI ((nOccurs S (tn side) (tn attr) value k) + (if nI (mVal S (tn side) k (tn attr)) = value then 1 else 0)))), (0, .ref (q 0)), (1, .int (nI (tn side))), (2, .int (nI (tn attr))), (3, .int value)]) 5 rfl (nI_inc _ rfl) (by decide) rfl ?_
              refine m_goto C d_X7_occurs_74 (tgt := 38) rfl ?_
              refine m_lv (lv' := [(0, .ref (q 0)), (1, .int (nI (tn side))), (2, .int (nI (tn attr))), (3, .int value), (4, .int (nI ((nOccurs S (tn side) (tn attr) value k) + (if nI (mVal S (tn side) k (tn attr)) = value then 1 else 0)))), (5, .int (nI (k + 1)))]) [2, 3, 4, 5, 1, 0] rfl ?_
              refine m_lve (lv' := [(0, .ref (q 0)), (1, .int (nI (tn side))), (2, .int (nI (tn attr))), (3, .int value), (4, .int (nI (nOccurs S (tn side) (tn attr) value (k + 1)))), (5, .int (nI (k + 1)))]) (rfl) ?_
              exact ih_38 (k + 1) (by omega) (by omega)
            refine m_iload C d_X7_occurs_49 4 rfl ?_
            refine m_aload_n C d_X7_occurs_51 0 rfl ?_
            refine m_iload_n C d_X7_occurs_52 1 rfl ?_
            refine m_iload C d_X7_occurs_53 5 rfl ?_
            refine m_iload_n C d_X7_occurs_55 2 rfl ?_
            refine m_callV C d_X7_occurs_56 ok_RX7_94 (m_valueOf (uK S 0 (cOccurs side attr)) (tn side) k (tn attr) (by omega) (by omega) (by omega)) rfl (rest := [.int (nI (nOccurs S (tn side) (tn attr) value k))]) rfl rfl (Nat.le_of_ble_eq_true rfl) ⟨⟨by decide, by decide⟩, by decide, by decide⟩ (fun v9 T9 e9 => ?_)
            obtain ⟨rfl, e9⟩ := e9
            refine m_eq e9 ?_
            show VM G x q h0 (uK S 0 (cOccurs side attr)) 59 [(0, .ref (q 0)), (1, .int (nI (tn side))), (2, .int (nI (tn attr))), (3, .int value), (4, .int (nI (nOccurs S (tn side) (tn attr) value k))), (5, .int (nI k))] [.int (nI (mVal S (tn side) k (tn attr))), .int (nI (nOccurs S (tn side) (tn attr) value k))]
            refine m_iload_n C d_X7_occurs_59 3 rfl ?_
            refine m_icmp_ne C d_X7_occurs_60 (tgt := 67) rfl (fun c_60 => ?_) (fun c_60 => ?_)
            · skip
              refine m_iconst C d_X7_occurs_67 (v := (nI 0)) rfl ?_
              refine m_st (st' := [.int (nI (if nI (mVal S (tn side) k (tn attr)) = value then 1 else 0)), .int (nI (nOccurs S (tn side) (tn attr) value k))]) (by first | rw [if_neg c_60] | rw [if_pos (Classical.not_not.mp c_60)]) ?_
              exact join_68  
            · skip
              refine m_iconst C d_X7_occurs_63 (v := (nI 1)) rfl ?_
              refine m_goto C d_X7_occurs_64 (tgt := 68) rfl ?_
              refine m_st (st' := [.int (nI (if nI (mVal S (tn side) k (tn attr)) = value then 1 else 0)), .int (nI (nOccurs S (tn side) (tn attr) value k))]) (by first | rw [if_neg c_60] | rw [if_pos (Classical.not_not.mp c_60)]) ?_
              exact join_68  
      refine m_lv (lv' := [(0, .ref (q 0)), (1, .int (nI (tn side))), (2, .int (nI (tn attr))), (3, .int value), (4, .int (nI 0)), (5, .int (nI 0))]) [2, 3, 4, 5, 1, 0] rfl ?_
      refine m_lve (lv' := [(0, .ref (q 0)), (1, .int (nI (tn side))), (2, .int (nI (tn attr))), (3, .int value), (4, .int (nI (nOccurs S (tn side) (tn attr) value 0))), (5, .int (nI 0))]) (rfl) ?_
      exact loop_38 _ 0 (by omega) (Nat.lt_succ_self _)
    · skip
      have c1 := of_decide_eq_false c_27
      refine m_iconst C d_X7_occurs_30 (v := (nI 0)) rfl ?_
      refine m_st (st' := [.int (nI (rOccurs S side attr value))]) (by rw [rOccurs, if_neg c1]) ?_
      exact m_iret C A TY d_X7_occurs_31 rfl (⟨rfl, rfl⟩)
  refine m_iload_n C d_X7_occurs_1 1 rfl ?_
  refine m_callS C d_X7_occurs_2 ok_RX7_80 (s_isSide side) (rest := [.ref (q 0)]) rfl rfl (Nat.le_of_ble_eq_true rfl) ⟨⟨by decide, by decide⟩, by decide, by decide⟩ ?_
  show VM G x q h0 S 5 [(0, .ref (q 0)), (1, .int side), (2, .int attr), (3, .int value)] [.int (bI (inR side 0 1)), .ref (q 0)]
  refine mb_if_ne C d_X7_occurs_5 (tgt := 12) rfl (fun c_5 => ?_) (fun c_5 => ?_)
  · skip
    refine m_iload_n C d_X7_occurs_12 2 rfl ?_
    refine m_callS C d_X7_occurs_13 ok_RX7_91 (s_isAttribute attr) (rest := [.ref (q 0)]) rfl rfl (Nat.le_of_ble_eq_true rfl) ⟨⟨by decide, by decide⟩, by decide, by decide⟩ ?_
    show VM G x q h0 S 16 [(0, .ref (q 0)), (1, .int side), (2, .int attr), (3, .int value)] [.int (bI (inR attr 0 2)), .ref (q 0)]
    refine mb_if_eq C d_X7_occurs_16 (tgt := 23) rfl (fun c_16 => ?_) (fun c_16 => ?_)
    · skip
      refine m_iconst C d_X7_occurs_23 (v := (nI 2)) rfl ?_
      refine m_st (st' := [.int (nI (cOccurs side attr)), .ref (q 0)]) (by first | (rw [cOccurs, if_pos c_5]; first | rw [if_pos c_16] | rw [if_neg (by rw [c_16]; decide)]) | rw [cOccurs, if_neg (by rw [c_5]; decide)]) ?_
      exact join_24  
    · skip
      refine m_iconst C d_X7_occurs_19 (v := (nI 0)) rfl ?_
      refine m_goto C d_X7_occurs_20 (tgt := 24) rfl ?_
      refine m_st (st' := [.int (nI (cOccurs side attr)), .ref (q 0)]) (by first | (rw [cOccurs, if_pos c_5]; first | rw [if_pos c_16] | rw [if_neg (by rw [c_16]; decide)]) | rw [cOccurs, if_neg (by rw [c_5]; decide)]) ?_
      exact join_24  
  · skip
    refine m_iconst C d_X7_occurs_8 (v := (nI 1)) rfl ?_
    refine m_goto C d_X7_occurs_9 (tgt := 24) rfl ?_
    refine m_st (st' := [.int (nI (cOccurs side attr)), .ref (q 0)]) (by first | (rw [cOccurs, if_pos c_5]; first | rw [if_pos c_16] | rw [if_neg (by rw [c_16]; decide)]) | rw [cOccurs, if_neg (by rw [c_5]; decide)]) ?_
    exact join_24  
def dl_X7_end : List (Nat × Instr × Nat) := [(0, .iload_n 1, 1), (1, .invokestatic 80, 3), (4, .istore_n 3, 1), (5, .aload_n 0, 1), (6, .iload_n 3, 1), (7, .ifCond .ne 7, 3), (10, .iconst 1, 1), (11, .goto 17, 3), (14, .aload_n 0, 1), (15, .getfield 7, 3), (18, .iload_n 1, 1), (19, .iaload, 1), (20, .ifCond .ne 7, 3), (23, .iconst 2, 1), (24, .goto 4, 3), (27, .iconst 0, 1), (28, .invokevirtual 84, 3), (31, .ifCond .ne 5, 3), (34, .iconst 0, 1), (35, .ireturn, 1), (36, .aload_n 0, 1), (37, .getfield 22, 3), (40, .iload_n 1, 1), (41, .iconst 1, 1), (42, .bastore, 1), (43, .aload_n 0, 1), (44, .getfield 26, 3), (47, .iload_n 1, 1), (48, .aload_n 0, 1), (49, .getfield 26, 3), (52, .iload_n 1, 1), (53, .baload, 1), (54, .ifCond .ne 7, 3), (57, .iload_n 2, 1), (58, .ifCond .eq 7, 3), (61, .iconst 1, 1), (62, .goto 4, 3), (65, .iconst 0, 1), (66, .bastore, 1), (67, .aload_n 0, 1), (68, .getfield 7, 3), (71, .iload_n 1, 1), (72, .iaload, 1), (73, .ireturn, 1)]
theorem dc_X7_end : dnL cX7_end dl_X7_end = true := by decide +kernel
theorem d_X7_end_0 : dn cX7_end 0 (.iload_n 1) 1 1 := dnAt dc_X7_end 0 rfl rfl
theorem d_X7_end_1 : dn cX7_end 1 (.invokestatic 80) 3 4 := dnAt dc_X7_end 1 rfl rfl
theorem d_X7_end_4 : dn cX7_end 4 (.istore_n 3) 1 5 := dnAt dc_X7_end 2 rfl rfl
theorem d_X7_end_5 : dn cX7_end 5 (.aload_n 0) 1 6 := dnAt dc_X7_end 3 rfl rfl
theorem d_X7_end_6 : dn cX7_end 6 (.iload_n 3) 1 7 := dnAt dc_X7_end 4 rfl rfl
theorem d_X7_end_7 : dn cX7_end 7 (.ifCond .ne 7) 3 10 := dnAt dc_X7_end 5 rfl rfl
theorem d_X7_end_10 : dn cX7_end 10 (.iconst 1) 1 11 := dnAt dc_X7_end 6 rfl rfl
theorem d_X7_end_11 : dn cX7_end 11 (.goto 17) 3 14 := dnAt dc_X7_end 7 rfl rfl
theorem d_X7_end_14 : dn cX7_end 14 (.aload_n 0) 1 15 := dnAt dc_X7_end 8 rfl rfl
theorem d_X7_end_15 : dn cX7_end 15 (.getfield 7) 3 18 := dnAt dc_X7_end 9 rfl rfl
theorem d_X7_end_18 : dn cX7_end 18 (.iload_n 1) 1 19 := dnAt dc_X7_end 10 rfl rfl
theorem d_X7_end_19 : dn cX7_end 19 (.iaload) 1 20 := dnAt dc_X7_end 11 rfl rfl
theorem d_X7_end_20 : dn cX7_end 20 (.ifCond .ne 7) 3 23 := dnAt dc_X7_end 12 rfl rfl
theorem d_X7_end_23 : dn cX7_end 23 (.iconst 2) 1 24 := dnAt dc_X7_end 13 rfl rfl
theorem d_X7_end_24 : dn cX7_end 24 (.goto 4) 3 27 := dnAt dc_X7_end 14 rfl rfl
theorem d_X7_end_27 : dn cX7_end 27 (.iconst 0) 1 28 := dnAt dc_X7_end 15 rfl rfl
theorem d_X7_end_28 : dn cX7_end 28 (.invokevirtual 84) 3 31 := dnAt dc_X7_end 16 rfl rfl
theorem d_X7_end_31 : dn cX7_end 31 (.ifCond .ne 5) 3 34 := dnAt dc_X7_end 17 rfl rfl
theorem d_X7_end_34 : dn cX7_end 34 (.iconst 0) 1 35 := dnAt dc_X7_end 18 rfl rfl
theorem d_X7_end_35 : dn cX7_end 35 (.ireturn) 1 36 := dnAt dc_X7_end 19 rfl rfl
theorem d_X7_end_36 : dn cX7_end 36 (.aload_n 0) 1 37 := dnAt dc_X7_end 20 rfl rfl
theorem d_X7_end_37 : dn cX7_end 37 (.getfield 22) 3 40 := dnAt dc_X7_end 21 rfl rfl
theorem d_X7_end_40 : dn cX7_end 40 (.iload_n 1) 1 41 := dnAt dc_X7_end 22 rfl rfl
theorem d_X7_end_41 : dn cX7_end 41 (.iconst 1) 1 42 := dnAt dc_X7_end 23 rfl rfl
theorem d_X7_end_42 : dn cX7_end 42 (.bastore) 1 43 := dnAt dc_X7_end 24 rfl rfl
theorem d_X7_end_43 : dn cX7_end 43 (.aload_n 0) 1 44 := dnAt dc_X7_end 25 rfl rfl
theorem d_X7_end_44 : dn cX7_end 44 (.getfield 26) 3 47 := dnAt dc_X7_end 26 rfl rfl
theorem d_X7_end_47 : dn cX7_end 47 (.iload_n 1) 1 48 := dnAt dc_X7_end 27 rfl rfl
theorem d_X7_end_48 : dn cX7_end 48 (.aload_n 0) 1 49 := dnAt dc_X7_end 28 rfl rfl
theorem d_X7_end_49 : dn cX7_end 49 (.getfield 26) 3 52 := dnAt dc_X7_end 29 rfl rfl
theorem d_X7_end_52 : dn cX7_end 52 (.iload_n 1) 1 53 := dnAt dc_X7_end 30 rfl rfl
theorem d_X7_end_53 : dn cX7_end 53 (.baload) 1 54 := dnAt dc_X7_end 31 rfl rfl
theorem d_X7_end_54 : dn cX7_end 54 (.ifCond .ne 7) 3 57 := dnAt dc_X7_end 32 rfl rfl
theorem d_X7_end_57 : dn cX7_end 57 (.iload_n 2) 1 58 := dnAt dc_X7_end 33 rfl rfl
theorem d_X7_end_58 : dn cX7_end 58 (.ifCond .eq 7) 3 61 := dnAt dc_X7_end 34 rfl rfl
theorem d_X7_end_61 : dn cX7_end 61 (.iconst 1) 1 62 := dnAt dc_X7_end 35 rfl rfl
theorem d_X7_end_62 : dn cX7_end 62 (.goto 4) 3 65 := dnAt dc_X7_end 36 rfl rfl
theorem d_X7_end_65 : dn cX7_end 65 (.iconst 0) 1 66 := dnAt dc_X7_end 37 rfl rfl
theorem d_X7_end_66 : dn cX7_end 66 (.bastore) 1 67 := dnAt dc_X7_end 38 rfl rfl
theorem d_X7_end_67 : dn cX7_end 67 (.aload_n 0) 1 68 := dnAt dc_X7_end 39 rfl rfl
theorem d_X7_end_68 : dn cX7_end 68 (.getfield 7) 3 71 := dnAt dc_X7_end 40 rfl rfl
theorem d_X7_end_71 : dn cX7_end 71 (.iload_n 1) 1 72 := dnAt dc_X7_end 41 rfl rfl
theorem d_X7_end_72 : dn cX7_end 72 (.iaload) 1 73 := dnAt dc_X7_end 42 rfl rfl
theorem d_X7_end_73 : dn cX7_end 73 (.ireturn) 1 74 := dnAt dc_X7_end 43 rfl rfl
set_option maxHeartbeats 4000000 in
set_option maxRecDepth 100000 in
theorem m_end (S : mS) (side : Int32) (t : Bool) (I : mInv S) : mC yX7_end cX7_end 4 (Option.some Jvm.ClassFile.FieldType.int) { frames := 2, cells := 0, slots := 0, locals := 42 } [.int side, .int (bI t)] S (fun v9 T9 => v9 = (some (.int (nI (rEnd S side)))) ∧ T9 = tEnd S side t) := by
  refine mC.of (by decide) (Nat.le_of_ble_eq_true rfl) ?_
  intro G x q h0 C A TY
  show VM G x q h0 S 0 [(0, .ref (q 0)), (1, .int side), (2, .int (bI t))] []
  refine m_iload_n C d_X7_end_0 1 rfl ?_
  refine m_callS C d_X7_end_1 ok_RX7_80 (s_isSide side) (rest := []) rfl rfl (Nat.le_of_ble_eq_true rfl) ⟨⟨by decide, by decide⟩, by decide, by decide⟩ ?_
  show VM G x q h0 S 4 [(0, .ref (q 0)), (1, .int side), (2, .int (bI t))] [.int (bI (inR side 0 1))]
  refine m_istore_n C d_X7_end_4 (lv' := [(3, .int (bI (inR side 0 1))), (0, .ref (q 0)), (1, .int side), (2, .int (bI t))]) (by decide) rfl ?_
  have join_28 : VM G x q h0 S 28 [(0, .ref (q 0)), (1, .int side), (2, .int (bI t))] [.int (nI (cEnd S side)), .ref (q 0)] := by
    refine m_callV C d_X7_end_28 ok_RX7_84 (m_holds S (cEnd S side) (by unfold cEnd; split <;> (try split) <;> omega)) rfl (rest := []) rfl rfl (Nat.le_of_ble_eq_true rfl) ⟨⟨by decide, by decide⟩, by decide, by decide⟩ (fun v9 T9 e9 => ?_)
    obtain ⟨rfl, e9⟩ := e9
    refine m_eq e9 ?_
    show VM G x q h0 (uK S 0 (cEnd S side)) 31 [(0, .ref (q 0)), (1, .int side), (2, .int (bI t))] [.int (bI (decide (cEnd S side = 0)))]
    refine mb_if_ne C d_X7_end_31 (tgt := 36) rfl (fun c_31 => ?_) (fun c_31 => ?_)
    · skip
      have c0 := of_decide_eq_true c_31
      obtain ⟨c1, c2⟩ := cEnd_0 c0
      obtain ⟨e1, -, e2⟩ := inR_of c1 (by decide) (by decide)
      have i1 := I.1 (tn side) (by omega)
      rw [c0]
      refine m_lve (lv' := [(0, .ref (q 0)), (1, .int (nI (tn side))), (2, .int (bI t))]) (by rw [← e1]) ?_
      refine m_aload_n C d_X7_end_36 0 rfl ?_
      refine m_get C d_X7_end_37 fd_RX7_22 (v := .ref (q 5)) rfl ?_
      refine m_iload_n C d_X7_end_40 1 rfl ?_
      refine m_iconst C d_X7_end_41 (v := (bI true)) rfl ?_
      refine m_zst C d_X7_end_42 (k := 5) (v := true) (by decide) rfl (by show _ < 2; omega) (by decide) ?_
      refine m_aload_n C d_X7_end_43 0 rfl ?_
      refine m_get C d_X7_end_44 fd_RX7_26 (v := .ref (q 6)) rfl ?_
      refine m_iload_n C d_X7_end_47 1 rfl ?_
      have join_66 : VM G x q h0 (uB (uK S 0 0) 5 (tn side) true) 66 [(0, .ref (q 0)), (1, .int (nI (tn side))), (2, .int (bI t))] [.int (bI (mB S 6 (tn side) || t)), .int (nI (tn side)), .ref (q 6)] := by
        refine m_zst C d_X7_end_66 (k := 6) (v := mB S 6 (tn side) || t) (by decide) rfl (by show _ < 2; omega) (by decide) ?_
        refine m_aload_n C d_X7_end_67 0 rfl ?_
        refine m_get C d_X7_end_68 fd_RX7_7 (v := .ref (q 1)) rfl ?_
        refine m_iload_n C d_X7_end_71 1 rfl ?_
        refine m_ald C d_X7_end_72 (k := 1) (by decide) rfl (by show _ < 2; omega) (by decide) ?_
        refine m_st (st' := [.int (nI (mN S 1 (tn side)))]) rfl ?_
        refine m_st (st' := [.int (nI (rEnd S side))]) (by rw [rEnd, if_pos c0]) ?_
        exact m_iret C A TY d_X7_end_73 rfl (⟨rfl, by rw [tEnd, if_pos c0]⟩)
      refine m_aload_n C d_X7_end_48 0 rfl ?_
      refine m_get C d_X7_end_49 fd_RX7_26 (v := .ref (q 6)) rfl ?_
      refine m_iload_n C d_X7_end_52 1 rfl ?_
      refine m_zld C d_X7_end_53 (k := 6) (by decide) rfl (by show _ < 2; omega) (by decide) ?_
      refine m_st (st' := [.int (bI (mB S 6 (tn side))), .int (nI (tn side)), .ref (q 6)]) rfl ?_
      refine mb_if_ne C d_X7_end_54 (tgt := 61) rfl (fun c_54 => ?_) (fun c_54 => ?_)
      · skip
        refine m_iconst C d_X7_end_61 (v := (bI true)) rfl ?_
        refine m_goto C d_X7_end_62 (tgt := 66) rfl ?_
        refine m_st (st' := [.int (bI (mB S 6 (tn side) || t)), .int (nI (tn side)), .ref (q 6)]) (by first | (rw [c_54]; first | rfl | (rw [c_58]; rfl)) | (rw [c_58]; rfl)) ?_
        exact join_66  
      · skip
        refine m_iload_n C d_X7_end_57 2 rfl ?_
        refine mb_if_eq C d_X7_end_58 (tgt := 65) rfl (fun c_58 => ?_) (fun c_58 => ?_)
        · skip
          refine m_iconst C d_X7_end_65 (v := (bI false)) rfl ?_
          refine m_st (st' := [.int (bI (mB S 6 (tn side) || t)), .int (nI (tn side)), .ref (q 6)]) (by first | (rw [c_54]; first | rfl | (rw [c_58]; rfl)) | (rw [c_58]; rfl)) ?_
          exact join_66  
        · skip
          refine m_iconst C d_X7_end_61 (v := (bI true)) rfl ?_
          refine m_goto C d_X7_end_62 (tgt := 66) rfl ?_
          refine m_st (st' := [.int (bI (mB S 6 (tn side) || t)), .int (nI (tn side)), .ref (q 6)]) (by first | (rw [c_54]; first | rfl | (rw [c_58]; rfl)) | (rw [c_58]; rfl)) ?_
          exact join_66  
    · skip
      have c1 := of_decide_eq_false c_31
      refine m_iconst C d_X7_end_34 (v := (nI 0)) rfl ?_
      refine m_st (st' := [.int (nI (rEnd S side))]) (by rw [rEnd, if_neg c1]) ?_
      exact m_iret C A TY d_X7_end_35 rfl (⟨rfl, by rw [tEnd, if_neg c1]⟩)
  refine m_aload_n C d_X7_end_5 1 rfl ?_
  refine m_iload_n C d_X7_end_6 0 rfl ?_
  refine mb_if_ne C d_X7_end_7 (tgt := 14) rfl (fun c_7 => ?_) (fun c_7 => ?_)
  · skip
    obtain ⟨e1, -, e2⟩ := inR_of c_7 (by decide) (by decide)
    have i1 := I.1 (tn side) (by omega)
    refine m_lve (lv' := [(3, .int (bI (inR side 0 1))), (0, .ref (q 0)), (1, .int (nI (tn side))), (2, .int (bI t))]) (by rw [← e1]) ?_
    refine m_aload_n C d_X7_end_14 1 rfl ?_
    refine m_get C d_X7_end_15 fd_RX7_7 (v := .ref (q 1)) rfl ?_
    refine m_iload_n C d_X7_end_18 2 rfl ?_
    refine m_ald C d_X7_end_19 (k := 1) (by decide) rfl (by show _ < 2; omega) (by decide) ?_
    refine mn_if_ne C d_X7_end_20 (tgt := 27) rfl (by omega) (fun c_20 => ?_) (fun c_20 => ?_)
    · skip
      refine m_iconst C d_X7_end_27 (v := (nI 0)) rfl ?_
      refine m_lv (lv' := [(0, .ref (q 0)), (1, .int (nI (tn side))), (2, .int (bI t))]) [1, 2, 3] rfl ?_
      refine m_lve (lv' := [(0, .ref (q 0)), (1, .int side), (2, .int (bI t))]) (by rw [← e1]) ?_
      refine m_st (st' := [.int (nI (cEnd S side)), .ref (q 0)]) (by first | (rw [cEnd, if_pos c_7]; first | rw [if_pos c_20] | rw [if_neg (by omega)]) | rw [cEnd, if_neg (by rw [c_7]; decide)]) ?_
      exact join_28  
    · skip
      refine m_iconst C d_X7_end_23 (v := (nI 2)) rfl ?_
      refine m_goto C d_X7_end_24 (tgt := 28) rfl ?_
      refine m_lv (lv' := [(0, .ref (q 0)), (1, .int (nI (tn side))), (2, .int (bI t))]) [1, 2, 3] rfl ?_
      refine m_lve (lv' := [(0, .ref (q 0)), (1, .int side), (2, .int (bI t))]) (by rw [← e1]) ?_
      refine m_st (st' := [.int (nI (cEnd S side)), .ref (q 0)]) (by first | (rw [cEnd, if_pos c_7]; first | rw [if_pos c_20] | rw [if_neg (by omega)]) | rw [cEnd, if_neg (by rw [c_7]; decide)]) ?_
      exact join_28  
  · skip
    refine m_iconst C d_X7_end_10 (v := (nI 1)) rfl ?_
    refine m_goto C d_X7_end_11 (tgt := 28) rfl ?_
    refine m_lv (lv' := [(0, .ref (q 0)), (1, .int side), (2, .int (bI t))]) [1, 2, 3] rfl ?_
    refine m_st (st' := [.int (nI (cEnd S side)), .ref (q 0)]) (by first | (rw [cEnd, if_pos c_7]; first | rw [if_pos c_20] | rw [if_neg (by omega)]) | rw [cEnd, if_neg (by rw [c_7]; decide)]) ?_
    exact join_28  
