theorem tw_362 : (Jvm.Cond.fieldLink "Corpusline" (156 : Nat) "Corpusline$Part" "tests" "[LCorpusline$TokenTest;") ∈ TB := tb_of 362 (by decide +kernel) rfl
theorem tw_364 : (Jvm.Cond.fieldLink "Corpusline$Walker" (72 : Nat) "Corpusline$Part" "nexts" "[I") ∈ TB := tb_of 364 (by decide +kernel) rfl
theorem tw_366 : (Jvm.Cond.fieldLink "Corpusline$Walker" (69 : Nat) "Corpusline$Part" "firsts" "I") ∈ TB := tb_of 366 (by decide +kernel) rfl
theorem fd_RX5_69 : fdOk RX5 69 0 2 := ⟨_, _, _, rfl, by decide, cw_0, tw_366, rfl⟩
theorem fd_RX5_72 : fdOk RX5 72 0 1 := ⟨_, _, _, rfl, by decide, cw_0, tw_364, rfl⟩
theorem fd_RX6_156 : fdOk RX6 156 0 0 := ⟨_, _, _, rfl, by decide, cw_0, tw_362, rfl⟩
/-- a part: how many tests, which come first and last, what comes behind each, which tests -/
def prt (G : eG) (ad : Nat → Nat → Nat) (h : hp) (a n fi la rs : Nat) (no is : Bool) (nx tt : Nat → Nat) : Prop := nr ad a ∧ ∃ pt pn, nr ad pt ∧ nr ad pn ∧ h a = some (oC 0 [.ref pt, .ref pn, .int (nI fi), .int (nI la), .int (bI no), .int (bI is), .int (nI rs)]) ∧ h pt = some (aR G 6 n (fun j => if j < n then some (tt j) else none)) ∧ h pn = some (aI G n (fun j => nI (nx j)))
theorem prt.mv {G : eG} {ad : Nat → Nat → Nat} {h h' : hp} {a n fi la rs : Nat} {no is : Bool} {nx tt : Nat → Nat} (t : prt G ad h a n fi la rs no is nx tt) (c : cfr ad h h') : prt G ad h' a n fi la rs no is nx tt := by
  obtain ⟨na, pt, pn, n1, n2, h1, h2, h3⟩ := t
  exact ⟨na, pt, pn, n1, n2, c a _ na.w h1, c pt _ n1.w h2, c pn _ n2.w h3⟩
/-- of a part, its number of tests alone -/
def ptn (G : eG) (ad : Nat → Nat → Nat) (h : hp) (a n : Nat) : Prop := nr ad a ∧ ∃ pt fs f, nr ad pt ∧ h a = some (oC 0 (.ref pt :: fs)) ∧ h pt = some (aR G 6 n f)
theorem prt.n {G : eG} {ad : Nat → Nat → Nat} {h : hp} {a n fi la rs : Nat} {no is : Bool} {nx tt : Nat → Nat} (t : prt G ad h a n fi la rs no is nx tt) : ptn G ad h a n := by
  obtain ⟨na, pt, pn, n1, n2, h1, h2, h3⟩ := t
  exact ⟨na, pt, _, _, n1, h1, h2⟩
theorem ptn.mv {G : eG} {ad : Nat → Nat → Nat} {h h' : hp} {a n : Nat} (t : ptn G ad h a n) (c : cfr ad h h') : ptn G ad h' a n := by
  obtain ⟨na, pt, fs, f, n1, h1, h2⟩ := t
  exact ⟨na, pt, fs, f, n1, c a _ na.w h1, c pt _ n1.w h2⟩
/-- the tests that can come next on a way -/
def nxF (fi : Nat) (nx : Nat → Nat) (w : Nat) : Nat := if w &&& 15 = 0 then fi else nx ((w &&& 15) - 1)
def dl_X5_nextsOf : List (Nat × Instr × Nat) := [(0, .iload_n 1, 1), (1, .bipush 15, 2), (3, .iand, 1), (4, .istore_n 2, 1), (5, .iload_n 2, 1), (6, .ifCond .ne 10, 3), (9, .aload_n 0, 1), (10, .getfield 69, 3), (13, .goto 11, 3), (16, .aload_n 0, 1), (17, .getfield 72, 3), (20, .iload_n 2, 1), (21, .iconst 1, 1), (22, .isub, 1), (23, .iaload, 1), (24, .ireturn, 1)]
theorem dc_X5_nextsOf : dnL cX5_nextsOf dl_X5_nextsOf = true := by decide +kernel
theorem d_X5_nextsOf_0 : dn cX5_nextsOf 0 (.iload_n 1) 1 1 := dnAt dc_X5_nextsOf 0 rfl rfl
theorem d_X5_nextsOf_1 : dn cX5_nextsOf 1 (.bipush 15) 2 3 := dnAt dc_X5_nextsOf 1 rfl rfl
theorem d_X5_nextsOf_3 : dn cX5_nextsOf 3 (.iand) 1 4 := dnAt dc_X5_nextsOf 2 rfl rfl
theorem d_X5_nextsOf_4 : dn cX5_nextsOf 4 (.istore_n 2) 1 5 := dnAt dc_X5_nextsOf 3 rfl rfl
theorem d_X5_nextsOf_5 : dn cX5_nextsOf 5 (.iload_n 2) 1 6 := dnAt dc_X5_nextsOf 4 rfl rfl
theorem d_X5_nextsOf_6 : dn cX5_nextsOf 6 (.ifCond .ne 10) 3 9 := dnAt dc_X5_nextsOf 5 rfl rfl
theorem d_X5_nextsOf_9 : dn cX5_nextsOf 9 (.aload_n 0) 1 10 := dnAt dc_X5_nextsOf 6 rfl rfl
theorem d_X5_nextsOf_10 : dn cX5_nextsOf 10 (.getfield 69) 3 13 := dnAt dc_X5_nextsOf 7 rfl rfl
theorem d_X5_nextsOf_13 : dn cX5_nextsOf 13 (.goto 11) 3 16 := dnAt dc_X5_nextsOf 8 rfl rfl
theorem d_X5_nextsOf_16 : dn cX5_nextsOf 16 (.aload_n 0) 1 17 := dnAt dc_X5_nextsOf 9 rfl rfl
theorem d_X5_nextsOf_17 : dn cX5_nextsOf 17 (.getfield 72) 3 20 := dnAt dc_X5_nextsOf 10 rfl rfl
theorem d_X5_nextsOf_20 : dn cX5_nextsOf 20 (.iload_n 2) 1 21 := dnAt dc_X5_nextsOf 11 rfl rfl
theorem d_X5_nextsOf_21 : dn cX5_nextsOf 21 (.iconst 1) 1 22 := dnAt dc_X5_nextsOf 12 rfl rfl
theorem d_X5_nextsOf_22 : dn cX5_nextsOf 22 (.isub) 1 23 := dnAt dc_X5_nextsOf 13 rfl rfl
theorem d_X5_nextsOf_23 : dn cX5_nextsOf 23 (.iaload) 1 24 := dnAt dc_X5_nextsOf 14 rfl rfl
theorem d_X5_nextsOf_24 : dn cX5_nextsOf 24 (.ireturn) 1 25 := dnAt dc_X5_nextsOf 15 rfl rfl
set_option maxHeartbeats 4000000 in
set_option maxRecDepth 100000 in
theorem k_nextsOf {l : Launch} {G : eG} {ad : Nat → Nat → Nat} {h : hp} {g : mS} {a w n fi la rs : Nat} {no is : Bool} {nx tt : Nat → Nat} (hm : co G ad g h) (T : prt G ad h a n fi la rs no is nx tt) (hw : w &&& 15 ≤ n) (hn : n < 9) : kC l G ad h yX5_nextsOf cX5_nextsOf 3 (Option.some Jvm.ClassFile.FieldType.int) { frames := 0, cells := 0, slots := 0, locals := 0 } [.ref a, .int (nI w)] (fun v9 g9 _ => v9 = some (.int (nI (nxF fi nx w))) ∧ g9 = g) := by
  refine kC.of hm (by decide) (Nat.le_of_ble_eq_true rfl) ?_
  intro x C A TY
  show VC G x ad h g 0 0 0 [(0, .ref a), (1, .int (nI w))] []
  obtain ⟨na, pt, pn, n1, n2, h1, h2, h3⟩ := T
  refine c_iload_n C d_X5_nextsOf_0 1 rfl ?_
  refine c_bipush C d_X5_nextsOf_1 (v := (nI 15)) rfl ?_
  refine cn_iand C d_X5_nextsOf_3 ?_
  refine c_istore_n C d_X5_nextsOf_4 (lv' := [(2, .int (nI (w &&& 15))), (0, .ref a), (1, .int (nI w))]) (by decide) rfl ?_
  refine c_iload_n C d_X5_nextsOf_5 0 rfl ?_
  have join_24 : VC G x ad h g 0 0 24 [(2, .int (nI (w &&& 15))), (0, .ref a), (1, .int (nI w))] [.int (nI (nxF fi nx w))] := by
    exact k_iret C A cfr_rf TY d_X5_nextsOf_24 rfl (Nat.le_of_ble_eq_true rfl) (Nat.le_of_ble_eq_true rfl) (fun h9 F9 => ⟨rfl, rfl⟩)
  refine cn_if_ne C d_X5_nextsOf_6 (tgt := 16) rfl (by omega) (fun c_6 => ?_) (fun c_6 => ?_)
  · skip
    refine c_aload_n C d_X5_nextsOf_16 1 rfl ?_
    refine c_getN C d_X5_nextsOf_17 fd_RX5_72 (na) (h1) (v := .ref pn) rfl ?_
    refine c_iload_n C d_X5_nextsOf_20 0 rfl ?_
    refine c_iconst C d_X5_nextsOf_21 (v := (nI 1)) rfl ?_
    refine cn_isub C d_X5_nextsOf_22 (by omega) ?_
    refine c_ialdN C d_X5_nextsOf_23 (n2) (h3) (by omega) (by omega) ?_
    show VC G x ad h g 0 0 24 [(2, .int (nI (w &&& 15))), (0, .ref a), (1, .int (nI w))] [.int (nI (nx ((w &&& 15) - 1)))]
    refine c_st (st' := [.int (nI (nxF fi nx w))]) (by rw [nxF, if_neg (by omega)]) ?_
    exact join_24  
  · skip
    refine c_aload_n C d_X5_nextsOf_9 1 rfl ?_
    refine c_getN C d_X5_nextsOf_10 fd_RX5_69 (na) (h1) (v := .int (nI fi)) rfl ?_
    refine c_goto C d_X5_nextsOf_13 (tgt := 24) rfl ?_
    refine c_st (st' := [.int (nI (nxF fi nx w))]) (by rw [nxF, if_pos c_6]) ?_
    exact join_24  
def dl_X6_testsOnPile : List (Nat × Instr × Nat) := [(0, .iconst 0, 1), (1, .istore_n 1, 1), (2, .iconst 0, 1), (3, .istore_n 2, 1), (4, .iload_n 2, 1), (5, .aload_n 0, 1), (6, .getfield 25, 3), (9, .if_icmp .ge 22, 3), (12, .iload_n 1, 1), (13, .aload_n 0, 1), (14, .getfield 21, 3), (17, .iload_n 2, 1), (18, .aaload, 1), (19, .getfield 156, 3), (22, .arraylength, 1), (23, .iadd, 1), (24, .istore_n 1, 1), (25, .iinc 2 1, 3), (28, .goto (-24), 3), (31, .iload_n 1, 1), (32, .ireturn, 1)]
theorem dc_X6_testsOnPile : dnL cX6_testsOnPile dl_X6_testsOnPile = true := by decide +kernel
theorem d_X6_testsOnPile_0 : dn cX6_testsOnPile 0 (.iconst 0) 1 1 := dnAt dc_X6_testsOnPile 0 rfl rfl
theorem d_X6_testsOnPile_1 : dn cX6_testsOnPile 1 (.istore_n 1) 1 2 := dnAt dc_X6_testsOnPile 1 rfl rfl
theorem d_X6_testsOnPile_2 : dn cX6_testsOnPile 2 (.iconst 0) 1 3 := dnAt dc_X6_testsOnPile 2 rfl rfl
theorem d_X6_testsOnPile_3 : dn cX6_testsOnPile 3 (.istore_n 2) 1 4 := dnAt dc_X6_testsOnPile 3 rfl rfl
theorem d_X6_testsOnPile_4 : dn cX6_testsOnPile 4 (.iload_n 2) 1 5 := dnAt dc_X6_testsOnPile 4 rfl rfl
theorem d_X6_testsOnPile_5 : dn cX6_testsOnPile 5 (.aload_n 0) 1 6 := dnAt dc_X6_testsOnPile 5 rfl rfl
theorem d_X6_testsOnPile_6 : dn cX6_testsOnPile 6 (.getfield 25) 3 9 := dnAt dc_X6_testsOnPile 6 rfl rfl
theorem d_X6_testsOnPile_9 : dn cX6_testsOnPile 9 (.if_icmp .ge 22) 3 12 := dnAt dc_X6_testsOnPile 7 rfl rfl
theorem d_X6_testsOnPile_12 : dn cX6_testsOnPile 12 (.iload_n 1) 1 13 := dnAt dc_X6_testsOnPile 8 rfl rfl
theorem d_X6_testsOnPile_13 : dn cX6_testsOnPile 13 (.aload_n 0) 1 14 := dnAt dc_X6_testsOnPile 9 rfl rfl
theorem d_X6_testsOnPile_14 : dn cX6_testsOnPile 14 (.getfield 21) 3 17 := dnAt dc_X6_testsOnPile 10 rfl rfl
theorem d_X6_testsOnPile_17 : dn cX6_testsOnPile 17 (.iload_n 2) 1 18 := dnAt dc_X6_testsOnPile 11 rfl rfl
theorem d_X6_testsOnPile_18 : dn cX6_testsOnPile 18 (.aaload) 1 19 := dnAt dc_X6_testsOnPile 12 rfl rfl
theorem d_X6_testsOnPile_19 : dn cX6_testsOnPile 19 (.getfield 156) 3 22 := dnAt dc_X6_testsOnPile 13 rfl rfl
theorem d_X6_testsOnPile_22 : dn cX6_testsOnPile 22 (.arraylength) 1 23 := dnAt dc_X6_testsOnPile 14 rfl rfl
theorem d_X6_testsOnPile_23 : dn cX6_testsOnPile 23 (.iadd) 1 24 := dnAt dc_X6_testsOnPile 15 rfl rfl
theorem d_X6_testsOnPile_24 : dn cX6_testsOnPile 24 (.istore_n 1) 1 25 := dnAt dc_X6_testsOnPile 16 rfl rfl
theorem d_X6_testsOnPile_25 : dn cX6_testsOnPile 25 (.iinc 2 1) 3 28 := dnAt dc_X6_testsOnPile 17 rfl rfl
theorem d_X6_testsOnPile_28 : dn cX6_testsOnPile 28 (.goto (-24)) 3 31 := dnAt dc_X6_testsOnPile 18 rfl rfl
theorem d_X6_testsOnPile_31 : dn cX6_testsOnPile 31 (.iload_n 1) 1 32 := dnAt dc_X6_testsOnPile 19 rfl rfl
theorem d_X6_testsOnPile_32 : dn cX6_testsOnPile 32 (.ireturn) 1 33 := dnAt dc_X6_testsOnPile 20 rfl rfl
set_option maxHeartbeats 4000000 in
set_option maxRecDepth 100000 in
theorem k_testsOnPile {l : Launch} {G : eG} {ad : Nat → Nat → Nat} {h : hp} {g : mS} {N : Nat → Nat} (hm : co G ad g h) (h8 : mK g 16 ≤ 8) (hN : ∀ i, i < mK g 16 → 0 < mN g 60 i ∧ N i < 9 ∧ ptn G ad h (mN g 60 i - 1) (N i)) : kC l G ad h yX6_testsOnPile cX6_testsOnPile 3 (Option.some Jvm.ClassFile.FieldType.int) { frames := 0, cells := 0, slots := 0, locals := 0 } [.ref (ad 0 0)] (fun v9 g9 _ => v9 = some (.int (nI (sumTo N (mK g 16)))) ∧ g9 = g) := by
  refine kC.of hm (by decide) (Nat.le_of_ble_eq_true rfl) ?_
  intro x C A TY
  show VC G x ad h g 0 0 0 [(0, .ref (ad 0 0))] []
  refine c_iconst C d_X6_testsOnPile_0 (v := (nI 0)) rfl ?_
  refine c_istore_n C d_X6_testsOnPile_1 (lv' := [(1, .int (nI 0)), (0, .ref (ad 0 0))]) (by decide) rfl ?_
  refine c_iconst C d_X6_testsOnPile_2 (v := (nI 0)) rfl ?_
  refine c_istore_n C d_X6_testsOnPile_3 (lv' := [(2, .int (nI 0)), (1, .int (nI 0)), (0, .ref (ad 0 0))]) (by decide) rfl ?_
  have loop_4 : ∀ (fuel : Nat) (k : Nat), (k ≤ mK g 16) → (9 - k) < fuel → VC G x ad h g 0 0 4 [(2, .int (nI k)), (1, .int (nI (sumTo N k))), (0, .ref (ad 0 0))] [] := by
    intro fuel
    induction fuel with
    | zero => intro k hk hf9; exact absurd hf9 (Nat.not_lt_zero _)
    | succ fuel ih_4 =>
      intro k hk hf9
      refine c_iload_n C d_X6_testsOnPile_4 0 rfl ?_
      refine c_aload_n C d_X6_testsOnPile_5 2 rfl ?_
      refine c_get C d_X6_testsOnPile_6 fd_RX6_25 (k := 0) (i' := 0) rfl rfl (v := .int (nI (mK g 16))) rfl ?_
      refine cn_icmp_ge C d_X6_testsOnPile_9 (tgt := 31) rfl (by omega) (by omega) (fun c_9 => ?_) (fun c_9 => ?_)
      · skip
        have e9 : k = mK g 16 := by omega
        refine c_iload_n C d_X6_testsOnPile_31 1 rfl ?_
        refine c_st (st' := [.int (nI (sumTo N (mK g 16)))]) (by rw [e9]) ?_
        exact k_iret C A cfr_rf TY d_X6_testsOnPile_32 rfl (Nat.le_of_ble_eq_true rfl) (Nat.le_of_ble_eq_true rfl) (fun h9 F9 => ⟨rfl, rfl⟩)
      · skip
        obtain ⟨p1, p2, na, pt, fs, f, n1, h1, h2⟩ := hN k (by omega)
        refine c_iload_n C d_X6_testsOnPile_12 1 rfl ?_
        refine c_aload_n C d_X6_testsOnPile_13 2 rfl ?_
        refine c_get C d_X6_testsOnPile_14 fd_RX6_21 (k := 0) (i' := 0) rfl rfl (v := .ref (ad 2 0)) rfl ?_
        refine c_iload_n C d_X6_testsOnPile_17 0 rfl ?_
        refine c_aPile C d_X6_testsOnPile_18 (s := k) (a := mN g 60 k - 1) (by omega) (by omega) ?_
        refine c_getN C d_X6_testsOnPile_19 fd_RX6_156 (na) (h1) (v := .ref pt) rfl ?_
        refine c_alenN C d_X6_testsOnPile_22 rfl (n1) (h2) ?_
        refine cn_iadd C d_X6_testsOnPile_23 ?_
        refine c_istore_n C d_X6_testsOnPile_24 (lv' := [(1, .int (nI ((sumTo N k) + (N k)))), (2, .int (nI k)), (0, .ref (ad 0 0))]) (by decide) rfl ?_
        refine cn_iinc C d_X6_testsOnPile_25 (lv' := [(2, .int (nI (k + 1))), (1, .int (nI ((sumTo N k) + (N k)))), (0, .ref (ad 0 0))]) 1 rfl (nI_inc _ rfl) (by decide) rfl ?_
        refine c_goto C d_X6_testsOnPile_28 (tgt := 4) rfl ?_
        refine c_lve (lv' := [(2, .int (nI (k + 1))), (1, .int (nI (sumTo N (k + 1)))), (0, .ref (ad 0 0))]) (rfl) ?_
        exact ih_4 (k + 1) (by omega) (by omega)
  refine c_lve (lv' := [(2, .int (nI 0)), (1, .int (nI (sumTo N 0))), (0, .ref (ad 0 0))]) (rfl) ?_
  exact loop_4 _ 0 (by omega) (Nat.lt_succ_self _)
