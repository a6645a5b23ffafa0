theorem tw_99 : (Jvm.Cond.fieldLink "Corpusline" (21 : Nat) "Corpusline" "pile" "[LCorpusline$Part;") ∈ TB := tb_of 99 (by decide +kernel) rfl
theorem tw_100 : (Jvm.Cond.fieldLink "Corpusline" (25 : Nat) "Corpusline" "pileCount" "I") ∈ TB := tb_of 100 (by decide +kernel) rfl
theorem tw_101 : (Jvm.Cond.fieldLink "Corpusline" (28 : Nat) "Corpusline" "patterns" "[LCorpusline$Part;") ∈ TB := tb_of 101 (by decide +kernel) rfl
theorem tw_102 : (Jvm.Cond.fieldLink "Corpusline" (31 : Nat) "Corpusline" "patternCount" "I") ∈ TB := tb_of 102 (by decide +kernel) rfl
theorem tw_305 : (Jvm.Cond.methodLink "Corpusline" (130 : Nat) ({ cls := "Corpusline", name := "pop", desc := "(I)V" } : Jvm.MethodName)) ∈ TB := tb_of 305 (by decide +kernel) rfl
theorem tw_307 : (Jvm.Cond.instanceMethod ({ cls := "Corpusline", name := "pop", desc := "(I)V" } : Jvm.MethodName)) ∈ TB := tb_of 307 (by decide +kernel) rfl
theorem tw_308 : (Jvm.Cond.code ({ cls := "Corpusline", name := "pop", desc := "(I)V" } : Jvm.MethodName) prog_1_method_38_code (3 : Nat) (Option.none : Option Jvm.ClassFile.FieldType)) ∈ TB := tb_of 308 (by decide +kernel) rfl
theorem ts_3 : Cond.selects "Corpusline" ({ cls := "Corpusline", name := "pop", desc := "(I)V" } : MethodName) ({ cls := "Corpusline", name := "pop", desc := "(I)V" } : MethodName) ∈ TB := tb_sel 3 (by decide +kernel) rfl
theorem fd_RX6_21 : fdOk RX6 21 5 2 := ⟨_, _, _, rfl, by decide, cw_5, tw_99, rfl⟩
theorem fd_RX6_25 : fdOk RX6 25 5 3 := ⟨_, _, _, rfl, by decide, cw_5, tw_100, rfl⟩
theorem fd_RX6_28 : fdOk RX6 28 5 4 := ⟨_, _, _, rfl, by decide, cw_5, tw_101, rfl⟩
theorem fd_RX6_31 : fdOk RX6 31 5 5 := ⟨_, _, _, rfl, by decide, cw_5, tw_102, rfl⟩
theorem pf_RX6_25 : pfOk RX6 25 5 3 .int false := ⟨_, _, _, tyX6, rfl, by decide, cw_5, tw_100, rfl, tyX6_ok, nmX6, rfl, by decide +kernel⟩
theorem ok_RX6_130 : okV RX6 130 yX6_pop cX6_pop 3 (Option.none : Option Jvm.ClassFile.FieldType) 1 := ⟨tw_305, tw_307, ts_3, tw_1, tw_308, ⟨by decide, by decide, by decide +kernel⟩⟩
/-- so many parts taken from the pile -/
def poF (g : mS) (c : Nat) : Nat → Nat := fun z => if mK g 16 - c ≤ z ∧ z < mK g 16 then 0 else mN g 60 z
def poS (g : mS) (c : Nat) : mS := uK (sN g 60 (poF g c)) 16 (mK g 16 - c)
theorem po_init {g : mS} : g = poS g 0 := mS_ext (fun k => by
    show mK g k = if k = 16 then mK g 16 - 0 else mK g k
    split
    · rename_i e; rw [e, Nat.sub_zero]
    · rfl) (fun k i => by
    show mN g k i = mN (sN g 60 (poF g 0)) k i
    rw [mN_sN]
    split
    · rename_i e; unfold poF; rw [if_neg (by omega), e]
    · rfl) (fun _ _ => rfl) (fun _ _ => rfl)
theorem po_step {g : mS} {c : Nat} (h : c < mK g 16) : uN (uK (poS g c) 16 (mK g 16 - c - 1)) 60 (mK g 16 - c - 1) 0 = poS g (c + 1) := mS_ext (fun k => by
    show (if k = 16 then mK g 16 - c - 1 else if k = 16 then mK g 16 - c else mK g k) = if k = 16 then mK g 16 - (c + 1) else mK g k
    split
    · omega
    · rfl) (fun k i => by
    show (if k = 60 ∧ i = mK g 16 - c - 1 then 0 else mN (sN g 60 (poF g c)) k i) = mN (sN g 60 (poF g (c + 1))) k i
    rw [mN_sN, mN_sN]
    by_cases e : k = 60
    · simp only [e, true_and, if_true]
      unfold poF
      by_cases f : i = mK g 16 - c - 1
      · rw [if_pos f, if_pos (by omega)]
      · rw [if_neg f]
        by_cases d : mK g 16 - c ≤ i ∧ i < mK g 16
        · rw [if_pos d, if_pos (by omega)]
        · rw [if_neg d, if_neg (by omega)]
    · simp only [e, false_and, if_false]) (fun _ _ => rfl) (fun _ _ => rfl)
def dl_X6_pop : List (Nat × Instr × Nat) := [(0, .iconst 0, 1), (1, .istore_n 2, 1), (2, .iload_n 2, 1), (3, .iload_n 1, 1), (4, .if_icmp .ge 36, 3), (7, .aload_n 0, 1), (8, .getfield 25, 3), (11, .ifCond .le 29, 3), (14, .aload_n 0, 1), (15, .dup, 1), (16, .getfield 25, 3), (19, .iconst 1, 1), (20, .isub, 1), (21, .putfield 25, 3), (24, .aload_n 0, 1), (25, .getfield 21, 3), (28, .aload_n 0, 1), (29, .getfield 25, 3), (32, .aconst_null, 1), (33, .aastore, 1), (34, .iinc 2 1, 3), (37, .goto (-35), 3), (40, .return_, 1)]
theorem dc_X6_pop : dnL cX6_pop dl_X6_pop = true := by decide +kernel
theorem d_X6_pop_0 : dn cX6_pop 0 (.iconst 0) 1 1 := dnAt dc_X6_pop 0 rfl rfl
theorem d_X6_pop_1 : dn cX6_pop 1 (.istore_n 2) 1 2 := dnAt dc_X6_pop 1 rfl rfl
theorem d_X6_pop_2 : dn cX6_pop 2 (.iload_n 2) 1 3 := dnAt dc_X6_pop 2 rfl rfl
theorem d_X6_pop_3 : dn cX6_pop 3 (.iload_n 1) 1 4 := dnAt dc_X6_pop 3 rfl rfl
theorem d_X6_pop_4 : dn cX6_pop 4 (.if_icmp .ge 36) 3 7 := dnAt dc_X6_pop 4 rfl rfl
theorem d_X6_pop_7 : dn cX6_pop 7 (.aload_n 0) 1 8 := dnAt dc_X6_pop 5 rfl rfl
theorem d_X6_pop_8 : dn cX6_pop 8 (.getfield 25) 3 11 := dnAt dc_X6_pop 6 rfl rfl
theorem d_X6_pop_11 : dn cX6_pop 11 (.ifCond .le 29) 3 14 := dnAt dc_X6_pop 7 rfl rfl
theorem d_X6_pop_14 : dn cX6_pop 14 (.aload_n 0) 1 15 := dnAt dc_X6_pop 8 rfl rfl
theorem d_X6_pop_15 : dn cX6_pop 15 (.dup) 1 16 := dnAt dc_X6_pop 9 rfl rfl
theorem d_X6_pop_16 : dn cX6_pop 16 (.getfield 25) 3 19 := dnAt dc_X6_pop 10 rfl rfl
theorem d_X6_pop_19 : dn cX6_pop 19 (.iconst 1) 1 20 := dnAt dc_X6_pop 11 rfl rfl
theorem d_X6_pop_20 : dn cX6_pop 20 (.isub) 1 21 := dnAt dc_X6_pop 12 rfl rfl
theorem d_X6_pop_21 : dn cX6_pop 21 (.putfield 25) 3 24 := dnAt dc_X6_pop 13 rfl rfl
theorem d_X6_pop_24 : dn cX6_pop 24 (.aload_n 0) 1 25 := dnAt dc_X6_pop 14 rfl rfl
theorem d_X6_pop_25 : dn cX6_pop 25 (.getfield 21) 3 28 := dnAt dc_X6_pop 15 rfl rfl
theorem d_X6_pop_28 : dn cX6_pop 28 (.aload_n 0) 1 29 := dnAt dc_X6_pop 16 rfl rfl
theorem d_X6_pop_29 : dn cX6_pop 29 (.getfield 25) 3 32 := dnAt dc_X6_pop 17 rfl rfl
theorem d_X6_pop_32 : dn cX6_pop 32 (.aconst_null) 1 33 := dnAt dc_X6_pop 18 rfl rfl
theorem d_X6_pop_33 : dn cX6_pop 33 (.aastore) 1 34 := dnAt dc_X6_pop 19 rfl rfl
theorem d_X6_pop_34 : dn cX6_pop 34 (.iinc 2 1) 3 37 := dnAt dc_X6_pop 20 rfl rfl
theorem d_X6_pop_37 : dn cX6_pop 37 (.goto (-35)) 3 40 := dnAt dc_X6_pop 21 rfl rfl
theorem d_X6_pop_40 : dn cX6_pop 40 (.return_) 1 41 := dnAt dc_X6_pop 22 rfl rfl
set_option maxHeartbeats 4000000 in
set_option maxRecDepth 100000 in
theorem k_pop {l : Launch} {G : eG} {ad : Nat → Nat → Nat} {h : hp} {g : mS} {c : Nat} (hm : co G ad g h) (h8 : mK g 16 ≤ 8) (hc : c ≤ mK g 16) : kC l G ad h yX6_pop cX6_pop 3 (Option.none : Option Jvm.ClassFile.FieldType) { frames := 0, cells := 0, slots := 0, locals := 0 } [.ref (ad 0 0), .int (nI c)] (fun v9 g9 _ => v9 = none ∧ g9 = poS g c) := by
  refine kC.of hm (by decide) (Nat.le_of_ble_eq_true rfl) ?_
  intro x C A TY
  show VC G x ad h g 0 0 0 [(0, .ref (ad 0 0)), (1, .int (nI c))] []
  refine c_iconst C d_X6_pop_0 (v := (nI 0)) rfl ?_
  refine c_istore_n C d_X6_pop_1 (lv' := [(2, .int (nI 0)), (0, .ref (ad 0 0)), (1, .int (nI c))]) (by decide) rfl ?_
  have loop_2 : ∀ (fuel : Nat) (k : Nat), (k ≤ c) → (9 - k) < fuel → VC G x ad h (poS g k) 0 0 2 [(2, .int (nI k)), (0, .ref (ad 0 0)), (1, .int (nI c))] [] := by
    intro fuel
    induction fuel with
    | zero => intro k hk hf9; exact absurd hf9 (Nat.not_lt_zero _)
    | succ fuel ih_2 =>
      intro k hk hf9
      refine c_iload_n C d_X6_pop_2 0 rfl ?_
      refine c_iload_n C d_X6_pop_3 2 rfl ?_
      refine cn_icmp_ge C d_X6_pop_4 (tgt := 40) rfl (by omega) (by omega) (fun c_4 => ?_) (fun c_4 => ?_)
      · skip
        obtain rfl : k = c := by omega
        exact k_vret C A cfr_rf TY d_X6_pop_40 (Nat.le_of_ble_eq_true rfl) (Nat.le_of_ble_eq_true rfl) (fun h9 F9 => ⟨rfl, rfl⟩)
      · skip
        refine c_aload_n C d_X6_pop_7 1 rfl ?_
        refine c_get C d_X6_pop_8 fd_RX6_25 (k := 0) (i' := 0) rfl rfl (v := .int (nI (mK (poS g k) 16))) rfl ?_
        refine c_st (st' := [.int (nI (mK g 16 - k))]) (rfl) ?_
        refine cn_if_le C d_X6_pop_11 (tgt := 40) rfl (by omega) (fun c_11 => ?_) (fun c_11 => ?_)
        · skip
          exfalso; omega
        · skip
          refine c_aload_n C d_X6_pop_14 1 rfl ?_
          refine c_dup C d_X6_pop_15 rfl ?_
          refine c_get C d_X6_pop_16 fd_RX6_25 (k := 0) (i' := 0) rfl rfl (v := .int (nI (mK (poS g k) 16))) rfl ?_
          refine c_st (st' := [.int (nI (mK g 16 - k)), .ref (ad 0 0)]) (rfl) ?_
          refine c_iconst C d_X6_pop_19 (v := (nI 1)) rfl ?_
          refine cn_isub C d_X6_pop_20 (by omega) ?_
          refine c_put C d_X6_pop_21 pf_RX6_25 (k := 0) (i' := 0) (g' := uK (poS g k) 16 ((mK g 16 - k) - 1)) rfl rfl rfl rfl (Nat.le_of_ble_eq_true rfl) rfl (rfl) (oth_K (by decide) rfl) ?_
          refine c_aload_n C d_X6_pop_24 1 rfl ?_
          refine c_get C d_X6_pop_25 fd_RX6_21 (k := 0) (i' := 0) rfl rfl (v := .ref (ad 2 0)) rfl ?_
          refine c_aload_n C d_X6_pop_28 1 rfl ?_
          refine c_get C d_X6_pop_29 fd_RX6_25 (k := 0) (i' := 0) rfl rfl (v := .int (nI (mK (uK (poS g k) 16 ((mK g 16 - k) - 1)) 16))) rfl ?_
          refine c_st (st' := [.int (nI ((mK g 16 - k) - 1)), .ref (ad 2 0)]) (by first | rfl | simp only [mN_uN, mB_uB, mK_uK, and_self, if_true]) ?_
          refine c_null C d_X6_pop_32 ?_
          refine c_sPileN C d_X6_pop_33 (s := (mK g 16 - k) - 1) (by omega) ?_
          refine cn_iinc C d_X6_pop_34 (lv' := [(2, .int (nI (k + 1))), (0, .ref (ad 0 0)), (1, .int (nI c))]) 0 rfl (nI_inc _ rfl) (by decide) rfl ?_
          refine c_goto C d_X6_pop_37 (tgt := 2) rfl ?_
          refine c_eq (g' := poS g (k + 1)) (po_step (by omega)) ?_
          exact ih_2 (k + 1) (by omega) (by omega)
  refine c_eq (g' := poS g 0) (po_init) ?_
  exact loop_2 _ 0 (by omega) (Nat.lt_succ_self _)
def dl_X6_push : List (Nat × Instr × Nat) := [(0, .aload_n 0, 1), (1, .getfield 25, 3), (4, .bipush 8, 2), (6, .if_icmp .ge 23, 3), (9, .aload_n 0, 1), (10, .getfield 21, 3), (13, .aload_n 0, 1), (14, .getfield 25, 3), (17, .aload_n 1, 1), (18, .aastore, 1), (19, .aload_n 0, 1), (20, .dup, 1), (21, .getfield 25, 3), (24, .iconst 1, 1), (25, .iadd, 1), (26, .putfield 25, 3), (29, .aload_n 0, 1), (30, .getfield 25, 3), (33, .ireturn, 1)]
theorem dc_X6_push : dnL cX6_push dl_X6_push = true := by decide +kernel
theorem d_X6_push_0 : dn cX6_push 0 (.aload_n 0) 1 1 := dnAt dc_X6_push 0 rfl rfl
theorem d_X6_push_1 : dn cX6_push 1 (.getfield 25) 3 4 := dnAt dc_X6_push 1 rfl rfl
theorem d_X6_push_4 : dn cX6_push 4 (.bipush 8) 2 6 := dnAt dc_X6_push 2 rfl rfl
theorem d_X6_push_6 : dn cX6_push 6 (.if_icmp .ge 23) 3 9 := dnAt dc_X6_push 3 rfl rfl
theorem d_X6_push_9 : dn cX6_push 9 (.aload_n 0) 1 10 := dnAt dc_X6_push 4 rfl rfl
theorem d_X6_push_10 : dn cX6_push 10 (.getfield 21) 3 13 := dnAt dc_X6_push 5 rfl rfl
theorem d_X6_push_13 : dn cX6_push 13 (.aload_n 0) 1 14 := dnAt dc_X6_push 6 rfl rfl
theorem d_X6_push_14 : dn cX6_push 14 (.getfield 25) 3 17 := dnAt dc_X6_push 7 rfl rfl
theorem d_X6_push_17 : dn cX6_push 17 (.aload_n 1) 1 18 := dnAt dc_X6_push 8 rfl rfl
theorem d_X6_push_18 : dn cX6_push 18 (.aastore) 1 19 := dnAt dc_X6_push 9 rfl rfl
theorem d_X6_push_19 : dn cX6_push 19 (.aload_n 0) 1 20 := dnAt dc_X6_push 10 rfl rfl
theorem d_X6_push_20 : dn cX6_push 20 (.dup) 1 21 := dnAt dc_X6_push 11 rfl rfl
theorem d_X6_push_21 : dn cX6_push 21 (.getfield 25) 3 24 := dnAt dc_X6_push 12 rfl rfl
theorem d_X6_push_24 : dn cX6_push 24 (.iconst 1) 1 25 := dnAt dc_X6_push 13 rfl rfl
theorem d_X6_push_25 : dn cX6_push 25 (.iadd) 1 26 := dnAt dc_X6_push 14 rfl rfl
theorem d_X6_push_26 : dn cX6_push 26 (.putfield 25) 3 29 := dnAt dc_X6_push 15 rfl rfl
theorem d_X6_push_29 : dn cX6_push 29 (.aload_n 0) 1 30 := dnAt dc_X6_push 16 rfl rfl
theorem d_X6_push_30 : dn cX6_push 30 (.getfield 25) 3 33 := dnAt dc_X6_push 17 rfl rfl
theorem d_X6_push_33 : dn cX6_push 33 (.ireturn) 1 34 := dnAt dc_X6_push 18 rfl rfl
set_option maxHeartbeats 4000000 in
set_option maxRecDepth 100000 in
theorem k_push {l : Launch} {G : eG} {ad : Nat → Nat → Nat} {h : hp} {g : mS} {a : Nat} {fs : List Value} (hm : co G ad g h) (h8 : mK g 16 < 8) (hn : nr ad a) (ha : h a = some (oC 0 fs)) : kC l G ad h yX6_push cX6_push 2 (Option.some Jvm.ClassFile.FieldType.int) { frames := 0, cells := 0, slots := 0, locals := 0 } [.ref (ad 0 0), .ref a] (fun v9 g9 _ => v9 = some (.int (nI (mK g 16 + 1))) ∧ g9 = uK (uN g 60 (mK g 16) (a + 1)) 16 (mK g 16 + 1)) := by
  refine kC.of hm (by decide) (Nat.le_of_ble_eq_true rfl) ?_
  intro x C A TY
  show VC G x ad h g 0 0 0 [(0, .ref (ad 0 0)), (1, .ref a)] []
  refine c_aload_n C d_X6_push_0 0 rfl ?_
  refine c_get C d_X6_push_1 fd_RX6_25 (k := 0) (i' := 0) rfl rfl (v := .int (nI (mK g 16))) rfl ?_
  refine c_bipush C d_X6_push_4 (v := (nI 8)) rfl ?_
  refine cn_icmp_ge C d_X6_push_6 (tgt := 29) rfl (by omega) (by omega) (fun c_6 => ?_) (fun c_6 => ?_)
  · skip
    exfalso; omega
  · skip
    refine c_aload_n C d_X6_push_9 0 rfl ?_
    refine c_get C d_X6_push_10 fd_RX6_21 (k := 0) (i' := 0) rfl rfl (v := .ref (ad 2 0)) rfl ?_
    refine c_aload_n C d_X6_push_13 0 rfl ?_
    refine c_get C d_X6_push_14 fd_RX6_25 (k := 0) (i' := 0) rfl rfl (v := .int (nI (mK g 16))) rfl ?_
    refine c_aload_n C d_X6_push_17 1 rfl ?_
    refine c_sPile C d_X6_push_18 (s := mK g 16) (a := a) (by omega) (hn) (ha) ?_
    refine c_aload_n C d_X6_push_19 0 rfl ?_
    refine c_dup C d_X6_push_20 rfl ?_
    refine c_get C d_X6_push_21 fd_RX6_25 (k := 0) (i' := 0) rfl rfl (v := .int (nI (mK (uN g 60 (mK g 16) (a + 1)) 16))) rfl ?_
    refine c_st (st' := [.int (nI (mK g 16)), .ref (ad 0 0)]) (by first | rfl | simp only [mN_uN, mB_uB, mK_uK, and_self, if_true]) ?_
    refine c_iconst C d_X6_push_24 (v := (nI 1)) rfl ?_
    refine cn_iadd C d_X6_push_25 ?_
    refine c_put C d_X6_push_26 pf_RX6_25 (k := 0) (i' := 0) (g' := uK (uN g 60 (mK g 16) (a + 1)) 16 ((mK g 16) + 1)) rfl rfl rfl rfl (Nat.le_of_ble_eq_true rfl) rfl (rfl) (oth_K (by decide) rfl) ?_
    refine c_aload_n C d_X6_push_29 0 rfl ?_
    refine c_get C d_X6_push_30 fd_RX6_25 (k := 0) (i' := 0) rfl rfl (v := .int (nI (mK (uK (uN g 60 (mK g 16) (a + 1)) 16 ((mK g 16) + 1)) 16))) rfl ?_
    refine c_st (st' := [.int (nI ((mK g 16) + 1))]) (by first | rfl | simp only [mN_uN, mB_uB, mK_uK, and_self, if_true]) ?_
    refine c_st (st' := [.int (nI (mK g 16 + 1))]) (rfl) ?_
    exact k_iret C A cfr_rf TY d_X6_push_33 rfl (Nat.le_of_ble_eq_true rfl) (Nat.le_of_ble_eq_true rfl) (fun h9 F9 => ⟨rfl, rfl⟩)
def dl_X6_wipe : List (Nat × Instr × Nat) := [(0, .aload_n 0, 1), (1, .getfield 25, 3), (4, .istore_n 1, 1), (5, .aload_n 0, 1), (6, .iload_n 1, 1), (7, .invokevirtual 130, 3), (10, .iload_n 1, 1), (11, .ireturn, 1)]
theorem dc_X6_wipe : dnL cX6_wipe dl_X6_wipe = true := by decide +kernel
theorem d_X6_wipe_0 : dn cX6_wipe 0 (.aload_n 0) 1 1 := dnAt dc_X6_wipe 0 rfl rfl
theorem d_X6_wipe_1 : dn cX6_wipe 1 (.getfield 25) 3 4 := dnAt dc_X6_wipe 1 rfl rfl
theorem d_X6_wipe_4 : dn cX6_wipe 4 (.istore_n 1) 1 5 := dnAt dc_X6_wipe 2 rfl rfl
theorem d_X6_wipe_5 : dn cX6_wipe 5 (.aload_n 0) 1 6 := dnAt dc_X6_wipe 3 rfl rfl
theorem d_X6_wipe_6 : dn cX6_wipe 6 (.iload_n 1) 1 7 := dnAt dc_X6_wipe 4 rfl rfl
theorem d_X6_wipe_7 : dn cX6_wipe 7 (.invokevirtual 130) 3 10 := dnAt dc_X6_wipe 5 rfl rfl
theorem d_X6_wipe_10 : dn cX6_wipe 10 (.iload_n 1) 1 11 := dnAt dc_X6_wipe 6 rfl rfl
theorem d_X6_wipe_11 : dn cX6_wipe 11 (.ireturn) 1 12 := dnAt dc_X6_wipe 7 rfl rfl
set_option maxHeartbeats 4000000 in
set_option maxRecDepth 100000 in
theorem k_wipe {l : Launch} {G : eG} {ad : Nat → Nat → Nat} {h : hp} {g : mS} (hm : co G ad g h) (h8 : mK g 16 ≤ 8) : kC l G ad h yX6_wipe cX6_wipe 2 (Option.some Jvm.ClassFile.FieldType.int) { frames := 1, cells := 0, slots := 0, locals := 22 } [.ref (ad 0 0)] (fun v9 g9 _ => v9 = some (.int (nI (mK g 16))) ∧ g9 = poS g (mK g 16)) := by
  refine kC.of hm (by decide) (Nat.le_of_ble_eq_true rfl) ?_
  intro x C A TY
  show VC G x ad h g 0 0 0 [(0, .ref (ad 0 0))] []
  refine c_aload_n C d_X6_wipe_0 0 rfl ?_
  refine c_get C d_X6_wipe_1 fd_RX6_25 (k := 0) (i' := 0) rfl rfl (v := .int (nI (mK g 16))) rfl ?_
  refine c_istore_n C d_X6_wipe_4 (lv' := [(1, .int (nI (mK g 16))), (0, .ref (ad 0 0))]) (by decide) rfl ?_
  refine c_aload_n C d_X6_wipe_5 1 rfl ?_
  refine c_iload_n C d_X6_wipe_6 0 rfl ?_
  refine k_callV C d_X6_wipe_7 ok_RX6_130 (k := 0) (i' := 0) (fun l h hm hf => k_pop hm (by omega) (by omega)) rfl rfl rfl rfl (rest := []) rfl rfl (Nat.le_of_ble_eq_true rfl) ⟨⟨by decide, by decide⟩, Nat.le_of_ble_eq_true rfl, Nat.le_of_ble_eq_true rfl⟩ (fun v9 g9 hq1 e9 F1 => ?_)
  obtain ⟨rfl, z1⟩ := e9
  refine c_eq z1 ?_
  refine c_base F1 ?_
  show VC G x ad h (poS g (mK g 16)) 0 0 10 [(1, .int (nI (mK g 16))), (0, .ref (ad 0 0))] []
  refine c_iload_n C d_X6_wipe_10 0 rfl ?_
  exact k_iret C A cfr_rf TY d_X6_wipe_11 rfl (Nat.le_of_ble_eq_true rfl) (Nat.le_of_ble_eq_true rfl) (fun h9 F9 => ⟨rfl, rfl⟩)
def dl_X6_knownPattern : List (Nat × Instr × Nat) := [(0, .iload_n 1, 1), (1, .ifCond .lt 11, 3), (4, .iload_n 1, 1), (5, .aload_n 0, 1), (6, .getfield 31, 3), (9, .if_icmp .lt 13, 3), (12, .new 88, 3), (15, .dup, 1), (16, .ldc 233, 2), (18, .invokespecial 92, 3), (21, .athrow, 1), (22, .aload_n 0, 1), (23, .getfield 28, 3), (26, .iload_n 1, 1), (27, .aaload, 1), (28, .areturn, 1)]
theorem dc_X6_knownPattern : dnL cX6_knownPattern dl_X6_knownPattern = true := by decide +kernel
theorem d_X6_knownPattern_0 : dn cX6_knownPattern 0 (.iload_n 1) 1 1 := dnAt dc_X6_knownPattern 0 rfl rfl
theorem d_X6_knownPattern_1 : dn cX6_knownPattern 1 (.ifCond .lt 11) 3 4 := dnAt dc_X6_knownPattern 1 rfl rfl
theorem d_X6_knownPattern_4 : dn cX6_knownPattern 4 (.iload_n 1) 1 5 := dnAt dc_X6_knownPattern 2 rfl rfl
theorem d_X6_knownPattern_5 : dn cX6_knownPattern 5 (.aload_n 0) 1 6 := dnAt dc_X6_knownPattern 3 rfl rfl
theorem d_X6_knownPattern_6 : dn cX6_knownPattern 6 (.getfield 31) 3 9 := dnAt dc_X6_knownPattern 4 rfl rfl
theorem d_X6_knownPattern_9 : dn cX6_knownPattern 9 (.if_icmp .lt 13) 3 12 := dnAt dc_X6_knownPattern 5 rfl rfl
theorem d_X6_knownPattern_12 : dn cX6_knownPattern 12 (.new 88) 3 15 := dnAt dc_X6_knownPattern 6 rfl rfl
theorem d_X6_knownPattern_15 : dn cX6_knownPattern 15 (.dup) 1 16 := dnAt dc_X6_knownPattern 7 rfl rfl
theorem d_X6_knownPattern_16 : dn cX6_knownPattern 16 (.ldc 233) 2 18 := dnAt dc_X6_knownPattern 8 rfl rfl
theorem d_X6_knownPattern_18 : dn cX6_knownPattern 18 (.invokespecial 92) 3 21 := dnAt dc_X6_knownPattern 9 rfl rfl
theorem d_X6_knownPattern_21 : dn cX6_knownPattern 21 (.athrow) 1 22 := dnAt dc_X6_knownPattern 10 rfl rfl
theorem d_X6_knownPattern_22 : dn cX6_knownPattern 22 (.aload_n 0) 1 23 := dnAt dc_X6_knownPattern 11 rfl rfl
theorem d_X6_knownPattern_23 : dn cX6_knownPattern 23 (.getfield 28) 3 26 := dnAt dc_X6_knownPattern 12 rfl rfl
theorem d_X6_knownPattern_26 : dn cX6_knownPattern 26 (.iload_n 1) 1 27 := dnAt dc_X6_knownPattern 13 rfl rfl
theorem d_X6_knownPattern_27 : dn cX6_knownPattern 27 (.aaload) 1 28 := dnAt dc_X6_knownPattern 14 rfl rfl
theorem d_X6_knownPattern_28 : dn cX6_knownPattern 28 (.areturn) 1 29 := dnAt dc_X6_knownPattern 15 rfl rfl
set_option maxHeartbeats 4000000 in
set_option maxRecDepth 100000 in
theorem k_knownPattern {l : Launch} {G : eG} {ad : Nat → Nat → Nat} {h : hp} {g : mS} (hlf : l.stackTraces = false) (hm : co G ad g h) (h15 : mK g 15 ≤ 12) (hpt : ∀ j, j < mK g 15 → 0 < mN g 61 j) (v : Int32) : kX l G ad h yX6_knownPattern cX6_knownPattern 2 (Option.some (Jvm.ClassFile.FieldType.object "Corpusline$Part")) { frames := 6, cells := 1, slots := 6, locals := 90 } [.ref (ad 0 0), .int v] (fun v9 g9 _ => v9 = some (.ref (mN g 61 (tn v) - 1)) ∧ g9 = g ∧ inI v (nI 0) (nI (mK g 15) - nI 1) = true) (fun E9 g9 => E9 = "java/lang/IndexOutOfBoundsException" ∧ inI v (nI 0) (nI (mK g 15) - nI 1) = false ∧ g9 = g) := by
  refine kX.of hlf hm (by decide) (Nat.le_of_ble_eq_true rfl) ?_
  intro x C A TY X
  show VC G x ad h g 0 0 0 [(0, .ref (ad 0 0)), (1, .int v)] []
  refine c_iload_n C d_X6_knownPattern_0 1 rfl ?_
  refine c_if_lt C d_X6_knownPattern_1 (tgt := 12) rfl (fun c_1 => ?_) (fun c_1 => ?_)
  · skip
    exact k_throw C X cfr_rf d_X6_knownPattern_12 d_X6_knownPattern_15 d_X6_knownPattern_16 d_X6_knownPattern_18 d_X6_knownPattern_21 th_88 (text := "no such pattern") (by decide) ⟨by decide, Nat.le_of_ble_eq_true rfl, Nat.le_of_ble_eq_true rfl, Nat.le_of_ble_eq_true rfl⟩ (⟨rfl, inI_Fm (Or.inl c_1) (by omega), rfl⟩)
  · skip
    refine c_iload_n C d_X6_knownPattern_4 1 rfl ?_
    refine c_aload_n C d_X6_knownPattern_5 0 rfl ?_
    refine c_get C d_X6_knownPattern_6 fd_RX6_31 (k := 0) (i' := 0) rfl rfl (v := .int (nI (mK g 15))) rfl ?_
    refine c_icmp_lt C d_X6_knownPattern_9 (tgt := 22) rfl (fun c_9 => ?_) (fun c_9 => ?_)
    · skip
      have i1 := inI_Tm c_1 c_9 (by omega)
      obtain ⟨j1, s1⟩ := inI_of (by omega) i1
      have p1 := hpt (tn v) s1
      refine c_lve (lv' := [(0, .ref (ad 0 0)), (1, .int (nI (tn v)))]) (by rw [← j1]) ?_
      refine c_aload_n C d_X6_knownPattern_22 0 rfl ?_
      refine c_get C d_X6_knownPattern_23 fd_RX6_28 (k := 0) (i' := 0) rfl rfl (v := .ref (ad 3 0)) rfl ?_
      refine c_iload_n C d_X6_knownPattern_26 1 rfl ?_
      refine c_aPat C d_X6_knownPattern_27 (s := tn v) (a := mN g 61 (tn v) - 1) (by omega) (by omega) ?_
      exact k_aret C A cfr_rf TY d_X6_knownPattern_28 (Nat.le_of_ble_eq_true rfl) (Nat.le_of_ble_eq_true rfl) (fun h9 F9 => ⟨rfl, rfl, i1⟩)
    · skip
      exact k_throw C X cfr_rf d_X6_knownPattern_12 d_X6_knownPattern_15 d_X6_knownPattern_16 d_X6_knownPattern_18 d_X6_knownPattern_21 th_88 (text := "no such pattern") (by decide) ⟨by decide, Nat.le_of_ble_eq_true rfl, Nat.le_of_ble_eq_true rfl, Nat.le_of_ble_eq_true rfl⟩ (⟨rfl, inI_Fm (Or.inr c_9) (by omega), rfl⟩)
def dl_X6_partFromTop : List (Nat × Instr × Nat) := [(0, .iload_n 1, 1), (1, .ifCond .lt 11, 3), (4, .iload_n 1, 1), (5, .aload_n 0, 1), (6, .getfield 25, 3), (9, .if_icmp .lt 13, 3), (12, .new 64, 3), (15, .dup, 1), (16, .ldc 239, 2), (18, .invokespecial 68, 3), (21, .athrow, 1), (22, .aload_n 0, 1), (23, .getfield 21, 3), (26, .aload_n 0, 1), (27, .getfield 25, 3), (30, .iconst 1, 1), (31, .isub, 1), (32, .iload_n 1, 1), (33, .isub, 1), (34, .aaload, 1), (35, .areturn, 1)]
theorem dc_X6_partFromTop : dnL cX6_partFromTop dl_X6_partFromTop = true := by decide +kernel
theorem d_X6_partFromTop_0 : dn cX6_partFromTop 0 (.iload_n 1) 1 1 := dnAt dc_X6_partFromTop 0 rfl rfl
theorem d_X6_partFromTop_1 : dn cX6_partFromTop 1 (.ifCond .lt 11) 3 4 := dnAt dc_X6_partFromTop 1 rfl rfl
theorem d_X6_partFromTop_4 : dn cX6_partFromTop 4 (.iload_n 1) 1 5 := dnAt dc_X6_partFromTop 2 rfl rfl
theorem d_X6_partFromTop_5 : dn cX6_partFromTop 5 (.aload_n 0) 1 6 := dnAt dc_X6_partFromTop 3 rfl rfl
theorem d_X6_partFromTop_6 : dn cX6_partFromTop 6 (.getfield 25) 3 9 := dnAt dc_X6_partFromTop 4 rfl rfl
theorem d_X6_partFromTop_9 : dn cX6_partFromTop 9 (.if_icmp .lt 13) 3 12 := dnAt dc_X6_partFromTop 5 rfl rfl
theorem d_X6_partFromTop_12 : dn cX6_partFromTop 12 (.new 64) 3 15 := dnAt dc_X6_partFromTop 6 rfl rfl
theorem d_X6_partFromTop_15 : dn cX6_partFromTop 15 (.dup) 1 16 := dnAt dc_X6_partFromTop 7 rfl rfl
theorem d_X6_partFromTop_16 : dn cX6_partFromTop 16 (.ldc 239) 2 18 := dnAt dc_X6_partFromTop 8 rfl rfl
theorem d_X6_partFromTop_18 : dn cX6_partFromTop 18 (.invokespecial 68) 3 21 := dnAt dc_X6_partFromTop 9 rfl rfl
theorem d_X6_partFromTop_21 : dn cX6_partFromTop 21 (.athrow) 1 22 := dnAt dc_X6_partFromTop 10 rfl rfl
theorem d_X6_partFromTop_22 : dn cX6_partFromTop 22 (.aload_n 0) 1 23 := dnAt dc_X6_partFromTop 11 rfl rfl
theorem d_X6_partFromTop_23 : dn cX6_partFromTop 23 (.getfield 21) 3 26 := dnAt dc_X6_partFromTop 12 rfl rfl
theorem d_X6_partFromTop_26 : dn cX6_partFromTop 26 (.aload_n 0) 1 27 := dnAt dc_X6_partFromTop 13 rfl rfl
theorem d_X6_partFromTop_27 : dn cX6_partFromTop 27 (.getfield 25) 3 30 := dnAt dc_X6_partFromTop 14 rfl rfl
theorem d_X6_partFromTop_30 : dn cX6_partFromTop 30 (.iconst 1) 1 31 := dnAt dc_X6_partFromTop 15 rfl rfl
theorem d_X6_partFromTop_31 : dn cX6_partFromTop 31 (.isub) 1 32 := dnAt dc_X6_partFromTop 16 rfl rfl
theorem d_X6_partFromTop_32 : dn cX6_partFromTop 32 (.iload_n 1) 1 33 := dnAt dc_X6_partFromTop 17 rfl rfl
theorem d_X6_partFromTop_33 : dn cX6_partFromTop 33 (.isub) 1 34 := dnAt dc_X6_partFromTop 18 rfl rfl
theorem d_X6_partFromTop_34 : dn cX6_partFromTop 34 (.aaload) 1 35 := dnAt dc_X6_partFromTop 19 rfl rfl
theorem d_X6_partFromTop_35 : dn cX6_partFromTop 35 (.areturn) 1 36 := dnAt dc_X6_partFromTop 20 rfl rfl
set_option maxHeartbeats 4000000 in
set_option maxRecDepth 100000 in
theorem k_partFromTop {l : Launch} {G : eG} {ad : Nat → Nat → Nat} {h : hp} {g : mS} {o : Nat} (hlf : l.stackTraces = false) (hm : co G ad g h) (h8 : mK g 16 ≤ 8) (hpl : ∀ j, j < mK g 16 → 0 < mN g 60 j) (ho : o < 100) : kX l G ad h yX6_partFromTop cX6_partFromTop 2 (Option.some (Jvm.ClassFile.FieldType.object "Corpusline$Part")) { frames := 6, cells := 1, slots := 6, locals := 90 } [.ref (ad 0 0), .int (nI o)] (fun v9 g9 _ => v9 = some (.ref (mN g 60 (mK g 16 - 1 - o) - 1)) ∧ g9 = g ∧ o < mK g 16) (fun E9 g9 => E9 = "java/lang/IllegalStateException" ∧ mK g 16 ≤ o ∧ g9 = g) := by
  refine kX.of hlf hm (by decide) (Nat.le_of_ble_eq_true rfl) ?_
  intro x C A TY X
  show VC G x ad h g 0 0 0 [(0, .ref (ad 0 0)), (1, .int (nI o))] []
  refine c_iload_n C d_X6_partFromTop_0 1 rfl ?_
  refine cn_if_lt C d_X6_partFromTop_1 (tgt := 12) rfl (by omega) (fun c_1 => ?_) (fun c_1 => ?_)
  · skip
    exfalso; exact c_1
  · skip
    refine c_iload_n C d_X6_partFromTop_4 1 rfl ?_
    refine c_aload_n C d_X6_partFromTop_5 0 rfl ?_
    refine c_get C d_X6_partFromTop_6 fd_RX6_25 (k := 0) (i' := 0) rfl rfl (v := .int (nI (mK g 16))) rfl ?_
    refine cn_icmp_lt C d_X6_partFromTop_9 (tgt := 22) rfl (by omega) (by omega) (fun c_9 => ?_) (fun c_9 => ?_)
    · skip
      have p1 := hpl (mK g 16 - 1 - o) (by omega)
      refine c_aload_n C d_X6_partFromTop_22 0 rfl ?_
      refine c_get C d_X6_partFromTop_23 fd_RX6_21 (k := 0) (i' := 0) rfl rfl (v := .ref (ad 2 0)) rfl ?_
      refine c_aload_n C d_X6_partFromTop_26 0 rfl ?_
      refine c_get C d_X6_partFromTop_27 fd_RX6_25 (k := 0) (i' := 0) rfl rfl (v := .int (nI (mK g 16))) rfl ?_
      refine c_iconst C d_X6_partFromTop_30 (v := (nI 1)) rfl ?_
      refine cn_isub C d_X6_partFromTop_31 (by omega) ?_
      refine c_iload_n C d_X6_partFromTop_32 1 rfl ?_
      refine cn_isub C d_X6_partFromTop_33 (by omega) ?_
      refine c_aPile C d_X6_partFromTop_34 (s := ((mK g 16) - 1) - o) (a := mN g 60 (mK g 16 - 1 - o) - 1) (by omega) (by omega) ?_
      exact k_aret C A cfr_rf TY d_X6_partFromTop_35 (Nat.le_of_ble_eq_true rfl) (Nat.le_of_ble_eq_true rfl) (fun h9 F9 => ⟨rfl, rfl, c_9⟩)
    · skip
      exact k_throw C X cfr_rf d_X6_partFromTop_12 d_X6_partFromTop_15 d_X6_partFromTop_16 d_X6_partFromTop_18 d_X6_partFromTop_21 th_64 (text := "too few parts") (by decide) ⟨by decide, Nat.le_of_ble_eq_true rfl, Nat.le_of_ble_eq_true rfl, Nat.le_of_ble_eq_true rfl⟩ (⟨rfl, c_9, rfl⟩)
