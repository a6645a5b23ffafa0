theorem tw_357 : (Jvm.Cond.methodLink "Corpusline$Part" (1 : Nat) ({ cls := "java/lang/Object", name := "<init>", desc := "()V" } : Jvm.MethodName)) ∈ TB := tb_of 357 (by decide +kernel) rfl
theorem tw_358 : (Jvm.Cond.classLink "Corpusline$Part" (26 : Nat) "Corpusline$TokenTest") ∈ TB := tb_of 358 (by decide +kernel) rfl
theorem tw_360 : (Jvm.Cond.fieldLink "Corpusline$Part" (28 : Nat) "Corpusline$Part" "tests" "[LCorpusline$TokenTest;") ∈ TB := tb_of 360 (by decide +kernel) rfl
theorem tw_363 : (Jvm.Cond.fieldLink "Corpusline$Part" (32 : Nat) "Corpusline$Part" "nexts" "[I") ∈ TB := tb_of 363 (by decide +kernel) rfl
theorem tw_365 : (Jvm.Cond.fieldLink "Corpusline$Part" (7 : Nat) "Corpusline$Part" "firsts" "I") ∈ TB := tb_of 365 (by decide +kernel) rfl
theorem tw_367 : (Jvm.Cond.fieldLink "Corpusline$Part" (13 : Nat) "Corpusline$Part" "lasts" "I") ∈ TB := tb_of 367 (by decide +kernel) rfl
theorem tw_369 : (Jvm.Cond.fieldLink "Corpusline$Part" (16 : Nat) "Corpusline$Part" "isNoneToo" "Z") ∈ TB := tb_of 369 (by decide +kernel) rfl
theorem tw_370 : (Jvm.Cond.fieldLink "Corpusline$Part" (20 : Nat) "Corpusline$Part" "isTest" "Z") ∈ TB := tb_of 370 (by decide +kernel) rfl
theorem tw_372 : (Jvm.Cond.fieldLink "Corpusline$Part" (23 : Nat) "Corpusline$Part" "readSettings" "I") ∈ TB := tb_of 372 (by decide +kernel) rfl
theorem tw_430 : (Jvm.Cond.methodLink "Corpusline$TokenTest" (29 : Nat) ({ cls := "Corpusline$TokenTest", name := "ofBoth", desc := "(LCorpusline$TokenTest;LCorpusline$TokenTest;)LCorpusline$TokenTest;" } : Jvm.MethodName)) ∈ TB := tb_of 430 (by decide +kernel) rfl
theorem tw_431 : (Jvm.Cond.static ({ cls := "Corpusline$TokenTest", name := "ofBoth", desc := "(LCorpusline$TokenTest;LCorpusline$TokenTest;)LCorpusline$TokenTest;" } : Jvm.MethodName)) ∈ TB := tb_of 431 (by decide +kernel) rfl
theorem tw_432 : (Jvm.Cond.code ({ cls := "Corpusline$TokenTest", name := "ofBoth", desc := "(LCorpusline$TokenTest;LCorpusline$TokenTest;)LCorpusline$TokenTest;" } : Jvm.MethodName) prog_6_method_4_code (4 : Nat) (Option.some (Jvm.ClassFile.FieldType.object "Corpusline$TokenTest"))) ∈ TB := tb_of 432 (by decide +kernel) rfl
theorem fd_RX0_23 : fdOk RX0 23 0 6 := ⟨_, _, _, rfl, by decide, cw_0, tw_372, rfl⟩
theorem fd_RX0_28 : fdOk RX0 28 0 0 := ⟨_, _, _, rfl, by decide, cw_0, tw_360, rfl⟩
theorem fd_RX0_32 : fdOk RX0 32 0 1 := ⟨_, _, _, rfl, by decide, cw_0, tw_363, rfl⟩
theorem pf_RX0_7 : pfOk RX0 7 0 2 .int false := ⟨_, _, _, tyX0, rfl, by decide, cw_0, tw_365, rfl, tyX0_ok, nmX0, rfl, by decide +kernel⟩
theorem pf_RX0_13 : pfOk RX0 13 0 3 .int false := ⟨_, _, _, tyX0, rfl, by decide, cw_0, tw_367, rfl, tyX0_ok, nmX0, rfl, by decide +kernel⟩
theorem pf_RX0_16 : pfOk RX0 16 0 4 .boolean false := ⟨_, _, _, tyX0, rfl, by decide, cw_0, tw_369, rfl, tyX0_ok, nmX0, rfl, by decide +kernel⟩
theorem pf_RX0_20 : pfOk RX0 20 0 5 .boolean false := ⟨_, _, _, tyX0, rfl, by decide, cw_0, tw_370, rfl, tyX0_ok, nmX0, rfl, by decide +kernel⟩
theorem pf_RX0_23 : pfOk RX0 23 0 6 .int false := ⟨_, _, _, tyX0, rfl, by decide, cw_0, tw_372, rfl, tyX0_ok, nmX0, rfl, by decide +kernel⟩
theorem pf_RX0_28 : pfOk RX0 28 0 0 (.array (.object "Corpusline$TokenTest")) true := ⟨_, _, _, tyX0, rfl, by decide, cw_0, tw_360, rfl, tyX0_ok, nmX0, rfl, by decide +kernel⟩
theorem pf_RX0_32 : pfOk RX0 32 0 1 (.array .int) true := ⟨_, _, _, tyX0, rfl, by decide, cw_0, tw_363, rfl, tyX0_ok, nmX0, rfl, by decide +kernel⟩
theorem ok_RX4_29 : okS RX4 29 yX4_ofBoth cX4_ofBoth 4 (Option.some (Jvm.ClassFile.FieldType.object "Corpusline$TokenTest")) 2 := ⟨tw_430, tw_431, tw_12, tw_432, ⟨by decide, by decide, by decide +kernel⟩⟩
def dl_X4_withLabel : List (Nat × Instr × Nat) := [(0, .aload_n 0, 1), (1, .aload_n 0, 1), (2, .invokestatic 29, 3), (5, .astore_n 2, 1), (6, .aload_n 2, 1), (7, .dup, 1), (8, .getfield 19, 3), (11, .iconst 1, 1), (12, .iload_n 1, 1), (13, .ishl, 1), (14, .ior, 1), (15, .putfield 19, 3), (18, .aload_n 2, 1), (19, .areturn, 1)]
theorem dc_X4_withLabel : dnL cX4_withLabel dl_X4_withLabel = true := by decide +kernel
theorem d_X4_withLabel_0 : dn cX4_withLabel 0 (.aload_n 0) 1 1 := dnAt dc_X4_withLabel 0 rfl rfl
theorem d_X4_withLabel_1 : dn cX4_withLabel 1 (.aload_n 0) 1 2 := dnAt dc_X4_withLabel 1 rfl rfl
theorem d_X4_withLabel_2 : dn cX4_withLabel 2 (.invokestatic 29) 3 5 := dnAt dc_X4_withLabel 2 rfl rfl
theorem d_X4_withLabel_5 : dn cX4_withLabel 5 (.astore_n 2) 1 6 := dnAt dc_X4_withLabel 3 rfl rfl
theorem d_X4_withLabel_6 : dn cX4_withLabel 6 (.aload_n 2) 1 7 := dnAt dc_X4_withLabel 4 rfl rfl
theorem d_X4_withLabel_7 : dn cX4_withLabel 7 (.dup) 1 8 := dnAt dc_X4_withLabel 5 rfl rfl
theorem d_X4_withLabel_8 : dn cX4_withLabel 8 (.getfield 19) 3 11 := dnAt dc_X4_withLabel 6 rfl rfl
theorem d_X4_withLabel_11 : dn cX4_withLabel 11 (.iconst 1) 1 12 := dnAt dc_X4_withLabel 7 rfl rfl
theorem d_X4_withLabel_12 : dn cX4_withLabel 12 (.iload_n 1) 1 13 := dnAt dc_X4_withLabel 8 rfl rfl
theorem d_X4_withLabel_13 : dn cX4_withLabel 13 (.ishl) 1 14 := dnAt dc_X4_withLabel 9 rfl rfl
theorem d_X4_withLabel_14 : dn cX4_withLabel 14 (.ior) 1 15 := dnAt dc_X4_withLabel 10 rfl rfl
theorem d_X4_withLabel_15 : dn cX4_withLabel 15 (.putfield 19) 3 18 := dnAt dc_X4_withLabel 11 rfl rfl
theorem d_X4_withLabel_18 : dn cX4_withLabel 18 (.aload_n 2) 1 19 := dnAt dc_X4_withLabel 12 rfl rfl
theorem d_X4_withLabel_19 : dn cX4_withLabel 19 (.areturn) 1 20 := dnAt dc_X4_withLabel 13 rfl rfl
set_option maxHeartbeats 4000000 in
set_option maxRecDepth 100000 in
theorem l_withLabel {l : Launch} {G : eG} {h0 : hp} {a1 p1 s1 b1 e : Nat} {P1 : Nat → Nat} (h1 : h0 a1 = some (oC 3 [.ref p1, .int (nI s1), .int (nI b1)])) (q1 : h0 p1 = some (aJ G 6 (fun i => lN (P1 i)))) (he : e < 3) : kL l G h0 [] yX4_withLabel cX4_withLabel 3 (Option.some (Jvm.ClassFile.FieldType.object "Corpusline$TokenTest")) { frames := 3, cells := 2, slots := 9, locals := 63 } [.ref a1, .int (nI e)] (fun v9 L9 => ∃ a p, v9 = some (.ref a) ∧ L9 = tcl G a p (botP P1 P1) s1 (b1 ||| 2 ^ e)) := by
  refine kL.of (by decide) (Nat.le_of_ble_eq_true rfl) ?_
  intro x C A TY CI
  show VL G x h0 [] 0 0 0 [(0, .ref a1), (1, .int (nI e))] []
  refine w_aload_n C d_X4_withLabel_0 0 rfl ?_
  refine w_aload_n C d_X4_withLabel_1 0 rfl ?_
  refine w_callS C d_X4_withLabel_2 ok_RX4_29 (L := []) (M := []) rfl (fun l h9 m9 c9 => l_ofBoth (m9 _ _ h1) (m9 _ _ q1) (m9 _ _ h1) (m9 _ _ q1)) (rest := []) rfl rfl (Nat.le_of_ble_eq_true rfl) ⟨⟨by decide, by decide⟩, Nat.le_of_ble_eq_true rfl, Nat.le_of_ble_eq_true rfl⟩ (fun v9 L9 e9 => ?_)
  obtain ⟨t1, p1, rfl, rfl⟩ := e9
  show VL G x h0 [(p1, aJ G 6 (fun i => lN ((botP P1 P1) i))), (t1, oC 3 [.ref p1, .int (nI (s1 ||| s1)), .int (nI (b1 ||| b1))])] 2 9 5 [(0, .ref a1), (1, .int (nI e))] [.ref t1]
  refine w_astore_n C d_X4_withLabel_5 (lv' := [(2, .ref t1), (0, .ref a1), (1, .int (nI e))]) (by decide) rfl ?_
  refine w_aload_n C d_X4_withLabel_6 0 rfl ?_
  refine w_dup C d_X4_withLabel_7 rfl ?_
  refine w_get C 1 d_X4_withLabel_8 fd_RX4_19 rfl (v := .int (nI (b1 ||| b1))) rfl ?_
  refine w_iconst C d_X4_withLabel_11 (v := (nI 1)) rfl ?_
  refine w_iload_n C d_X4_withLabel_12 2 rfl ?_
  refine wn_ishl C d_X4_withLabel_13 (by omega) ?_
  refine wn_ior C d_X4_withLabel_14 ?_
  refine w_put C 1 d_X4_withLabel_15 pf_RX4_19 rfl rfl rfl (Nat.le_of_ble_eq_true rfl) (fs' := [.ref p1, .int (nI (s1 ||| s1)), .int (nI ((b1 ||| b1) ||| (1 * 2 ^ e)))]) rfl (L' := [(p1, aJ G 6 (fun i => lN ((botP P1 P1) i))), (t1, oC 3 [.ref p1, .int (nI (s1 ||| s1)), .int (nI ((b1 ||| b1) ||| (1 * 2 ^ e)))])]) rfl ?_
  refine w_aload_n C d_X4_withLabel_18 0 rfl ?_
  exact w_aret C A TY d_X4_withLabel_19 (Nat.le_of_ble_eq_true rfl) (Nat.le_of_ble_eq_true rfl) (⟨t1, p1, rfl, by rw [Nat.or_self, Nat.or_self, Nat.one_mul]; rfl⟩)
set_option maxHeartbeats 4000000 in
set_option maxRecDepth 100000 in
theorem l_readSettings {l : Launch} {G : eG} {h0 : hp} {a1 p1 s1 b1 : Nat} (h1 : h0 a1 = some (oC 3 [.ref p1, .int (nI s1), .int (nI b1)])) (hs : s1 < 512) : kL l G h0 [] yX4_readSettings cX4_readSettings 3 (Option.some Jvm.ClassFile.FieldType.int) { frames := 1, cells := 0, slots := 0, locals := 20 } [.ref a1] (fun v9 L9 => v9 = some (.int (nI (rsF s1 9))) ∧ L9 = []) := by
  refine kL.of (by decide) (Nat.le_of_ble_eq_true rfl) ?_
  intro x C A TY CI
  show VL G x h0 [] 0 0 0 [(0, .ref a1)] []
  refine w_iconst C d_X4_readSettings_0 (v := (nI 0)) rfl ?_
  refine w_istore_n C d_X4_readSettings_1 (lv' := [(1, .int (nI 0)), (0, .ref a1)]) (by decide) rfl ?_
  refine w_iconst C d_X4_readSettings_2 (v := (nI 0)) rfl ?_
  refine w_istore_n C d_X4_readSettings_3 (lv' := [(2, .int (nI 0)), (1, .int (nI 0)), (0, .ref a1)]) (by decide) rfl ?_
  have loop_4 : ∀ (fuel : Nat) (k : Nat), (k ≤ 9) → (10 - k) < fuel → VL G x h0 [] 0 0 4 [(2, .int (nI k)), (1, .int (nI (rsF s1 k))), (0, .ref a1)] [] := by
    intro fuel
    induction fuel with
    | zero => intro k hk hf9; exact absurd hf9 (Nat.not_lt_zero _)
    | succ fuel ih_4 =>
      intro k hk hf9
      refine w_iload_n C d_X4_readSettings_4 0 rfl ?_
      refine w_bipush C d_X4_readSettings_5 (v := (nI 9)) rfl ?_
      refine wn_icmp_ge C d_X4_readSettings_7 (tgt := 36) rfl (by omega) (by omega) (fun c_7 => ?_) (fun c_7 => ?_)
      · skip
        obtain rfl : k = 9 := by omega
        refine w_iload_n C d_X4_readSettings_36 1 rfl ?_
        exact w_iret C A TY d_X4_readSettings_37 rfl (Nat.le_of_ble_eq_true rfl) (Nat.le_of_ble_eq_true rfl) (⟨rfl, rfl⟩)
      · skip
        refine w_aload_n C d_X4_readSettings_10 2 rfl ?_
        refine w_getN C d_X4_readSettings_11 fd_RX4_15 (h1) (v := .int (nI s1)) rfl ?_
        refine w_iload_n C d_X4_readSettings_14 0 rfl ?_
        refine wn_ishr C d_X4_readSettings_15 (by omega) (by omega) ?_
        refine w_iconst C d_X4_readSettings_16 (v := (nI 1)) rfl ?_
        refine wn_iand C d_X4_readSettings_17 ?_
        refine w_st (st' := [.int (nI (s1 / 2 ^ k % 2))]) (by rw [and1]) ?_
        have join_30 : VL G x h0 [] 0 0 30 [(2, .int (nI k)), (1, .int (nI (rsF s1 (k + 1)))), (0, .ref a1)] [] := by
          refine wn_iinc C d_X4_readSettings_30 (lv' := [(2, .int (nI (k + 1))), (1, .int (nI (rsF s1 (k + 1)))), (0, .ref a1)]) 0 rfl (nI_inc _ rfl) (by decide) rfl ?_
          refine w_goto C d_X4_readSettings_33 (tgt := 4) rfl ?_
          exact ih_4 (k + 1) (by omega) (by omega)
        refine wn_if_eq C d_X4_readSettings_18 (tgt := 30) rfl (by omega) (fun c_18 => ?_) (fun c_18 => ?_)
        · skip
          refine w_lve (lv' := [(2, .int (nI k)), (1, .int (nI (rsF s1 (k + 1)))), (0, .ref a1)]) (by rw [rsF, if_neg (by omega)]) ?_
          exact join_30  
        · skip
          refine w_iload_n C d_X4_readSettings_21 1 rfl ?_
          refine w_iload_n C d_X4_readSettings_22 0 rfl ?_
          refine w_iconst C d_X4_readSettings_23 (v := (nI 3)) rfl ?_
          refine wn_irem C d_X4_readSettings_24 (by omega) (by omega) (by omega) ?_
          refine w_callP C d_X4_readSettings_25 ok_RX4_33 (s_fieldOf (k % 3) (by omega)) (rest := [.int (nI (rsF s1 k))]) rfl rfl (Nat.le_of_ble_eq_true rfl) ⟨⟨by decide, by decide⟩, Nat.le_of_ble_eq_true rfl, Nat.le_of_ble_eq_true rfl⟩ ?_
          show VL G x h0 [] 0 0 28 [(2, .int (nI k)), (1, .int (nI (rsF s1 k))), (0, .ref a1)] [.int (nI (stF (k % 3))), .int (nI (rsF s1 k))]
          refine wn_ior C d_X4_readSettings_28 ?_
          refine w_istore_n C d_X4_readSettings_29 (lv' := [(1, .int (nI ((rsF s1 k) ||| (stF (k % 3))))), (2, .int (nI k)), (0, .ref a1)]) (by decide) rfl ?_
          refine w_lv (lv' := [(2, .int (nI k)), (1, .int (nI ((rsF s1 k) ||| (stF (k % 3))))), (0, .ref a1)]) [1, 0, 2] rfl ?_
          refine w_lve (lv' := [(2, .int (nI k)), (1, .int (nI (rsF s1 (k + 1)))), (0, .ref a1)]) (by rw [rsF, if_pos (by omega)]) ?_
          exact join_30  
  refine w_lve (lv' := [(2, .int (nI 0)), (1, .int (nI (rsF s1 0))), (0, .ref a1)]) (rfl) ?_
  exact loop_4 _ 0 (by omega) (Nat.lt_succ_self _)
/-- a new part -/
def pcl (G : eG) (a pt pn n fi la rs : Nat) (no is : Bool) (nx tt : Nat → Nat) : cL := [(pn, aI G n (fun j => nI (nx j))), (pt, aR G 6 n (fun j => if j < n then some (tt j) else none)), (a, oC 0 [.ref pt, .ref pn, .int (nI fi), .int (nI la), .int (bI no), .int (bI is), .int (nI rs)])]
/-- numbers put in from a place on -/
def inX (X nx : Nat → Nat) (sh k : Nat) : Nat → Nat := fun j => if sh ≤ j ∧ j < sh + k then nx (j - sh) * 2 ^ sh else X j
def inF (F : Nat → Option Nat) (tt : Nat → Nat) (sh k : Nat) : Nat → Option Nat := fun j => if sh ≤ j ∧ j < sh + k then some (tt (j - sh)) else F j
theorem inX_0 {X nx : Nat → Nat} {sh : Nat} : inX X nx sh 0 = X := by
  funext j; unfold inX; rw [if_neg (by omega)]
theorem inF_0 {F : Nat → Option Nat} {tt : Nat → Nat} {sh : Nat} : inF F tt sh 0 = F := by
  funext j; unfold inF; rw [if_neg (by omega)]
theorem inX_s {X nx : Nat → Nat} {sh k : Nat} : upd (fun i => nI (inX X nx sh k i)) (sh + k) (nI (nx k * 2 ^ sh)) = fun i => nI (inX X nx sh (k + 1) i) := updI_of (fun j => by
  unfold inX
  by_cases c : j = sh + k
  · rw [if_pos c, if_pos (by omega), show j - sh = k by omega]
  · rw [if_neg c]
    by_cases d : sh ≤ j ∧ j < sh + k
    · rw [if_pos d, if_pos (by omega)]
    · rw [if_neg d, if_neg (by omega)])
theorem inF_s {F : Nat → Option Nat} {tt : Nat → Nat} {sh k : Nat} : va_up (inF F tt sh k) (sh + k) (some (tt k)) = inF F tt sh (k + 1) := by
  funext j; unfold va_up inF
  by_cases c : j = sh + k
  · rw [if_pos c, if_pos (by omega), show j - sh = k by omega]
  · rw [if_neg c]
    by_cases d : sh ≤ j ∧ j < sh + k
    · rw [if_pos d, if_pos (by omega)]
    · rw [if_neg d, if_neg (by omega)]
theorem nI_fun0 : (fun _ : Nat => (0 : Int32)) = fun i => nI ((fun _ => 0) i) := rfl
def dl_X0_init : List (Nat × Instr × Nat) := [(0, .aload_n 0, 1), (1, .invokespecial 1, 3), (4, .aload_n 0, 1), (5, .iconst 0, 1), (6, .putfield 7, 3), (9, .aload_n 0, 1), (10, .iconst 0, 1), (11, .putfield 13, 3), (14, .aload_n 0, 1), (15, .iconst 0, 1), (16, .putfield 16, 3), (19, .aload_n 0, 1), (20, .iconst 0, 1), (21, .putfield 20, 3), (24, .aload_n 0, 1), (25, .iconst 0, 1), (26, .putfield 23, 3), (29, .aload_n 0, 1), (30, .iload_n 1, 1), (31, .anewarray 26, 3), (34, .putfield 28, 3), (37, .aload_n 0, 1), (38, .iload_n 1, 1), (39, .newarray .int, 2), (41, .putfield 32, 3), (44, .return_, 1)]
theorem dc_X0_init : dnL cX0_init dl_X0_init = true := by decide +kernel
theorem d_X0_init_0 : dn cX0_init 0 (.aload_n 0) 1 1 := dnAt dc_X0_init 0 rfl rfl
theorem d_X0_init_1 : dn cX0_init 1 (.invokespecial 1) 3 4 := dnAt dc_X0_init 1 rfl rfl
theorem d_X0_init_4 : dn cX0_init 4 (.aload_n 0) 1 5 := dnAt dc_X0_init 2 rfl rfl
theorem d_X0_init_5 : dn cX0_init 5 (.iconst 0) 1 6 := dnAt dc_X0_init 3 rfl rfl
theorem d_X0_init_6 : dn cX0_init 6 (.putfield 7) 3 9 := dnAt dc_X0_init 4 rfl rfl
theorem d_X0_init_9 : dn cX0_init 9 (.aload_n 0) 1 10 := dnAt dc_X0_init 5 rfl rfl
theorem d_X0_init_10 : dn cX0_init 10 (.iconst 0) 1 11 := dnAt dc_X0_init 6 rfl rfl
theorem d_X0_init_11 : dn cX0_init 11 (.putfield 13) 3 14 := dnAt dc_X0_init 7 rfl rfl
theorem d_X0_init_14 : dn cX0_init 14 (.aload_n 0) 1 15 := dnAt dc_X0_init 8 rfl rfl
theorem d_X0_init_15 : dn cX0_init 15 (.iconst 0) 1 16 := dnAt dc_X0_init 9 rfl rfl
theorem d_X0_init_16 : dn cX0_init 16 (.putfield 16) 3 19 := dnAt dc_X0_init 10 rfl rfl
theorem d_X0_init_19 : dn cX0_init 19 (.aload_n 0) 1 20 := dnAt dc_X0_init 11 rfl rfl
theorem d_X0_init_20 : dn cX0_init 20 (.iconst 0) 1 21 := dnAt dc_X0_init 12 rfl rfl
theorem d_X0_init_21 : dn cX0_init 21 (.putfield 20) 3 24 := dnAt dc_X0_init 13 rfl rfl
theorem d_X0_init_24 : dn cX0_init 24 (.aload_n 0) 1 25 := dnAt dc_X0_init 14 rfl rfl
theorem d_X0_init_25 : dn cX0_init 25 (.iconst 0) 1 26 := dnAt dc_X0_init 15 rfl rfl
theorem d_X0_init_26 : dn cX0_init 26 (.putfield 23) 3 29 := dnAt dc_X0_init 16 rfl rfl
theorem d_X0_init_29 : dn cX0_init 29 (.aload_n 0) 1 30 := dnAt dc_X0_init 17 rfl rfl
theorem d_X0_init_30 : dn cX0_init 30 (.iload_n 1) 1 31 := dnAt dc_X0_init 18 rfl rfl
theorem d_X0_init_31 : dn cX0_init 31 (.anewarray 26) 3 34 := dnAt dc_X0_init 19 rfl rfl
theorem d_X0_init_34 : dn cX0_init 34 (.putfield 28) 3 37 := dnAt dc_X0_init 20 rfl rfl
theorem d_X0_init_37 : dn cX0_init 37 (.aload_n 0) 1 38 := dnAt dc_X0_init 21 rfl rfl
theorem d_X0_init_38 : dn cX0_init 38 (.iload_n 1) 1 39 := dnAt dc_X0_init 22 rfl rfl
theorem d_X0_init_39 : dn cX0_init 39 (.newarray .int) 2 41 := dnAt dc_X0_init 23 rfl rfl
theorem d_X0_init_41 : dn cX0_init 41 (.putfield 32) 3 44 := dnAt dc_X0_init 24 rfl rfl
theorem d_X0_init_44 : dn cX0_init 44 (.return_) 1 45 := dnAt dc_X0_init 25 rfl rfl
set_option maxHeartbeats 4000000 in
set_option maxRecDepth 100000 in
theorem l_X0init {l : Launch} {G : eG} {h0 : hp} {a m : Nat} (hm9 : m ≤ 8) : kL l G h0 [(a, oC 0 [.null, .null, .int (nI 0), .int (nI 0), .int (bI false), .int (bI false), .int (nI 0)])] yX0_init cX0_init 2 (Option.none : Option Jvm.ClassFile.FieldType) { frames := 1, cells := 2, slots := 16, locals := 20 } [.ref a, .int (nI m)] (fun v9 L9 => v9 = none ∧ ∃ pt pn, L9 = [(pn, aI G m (fun i => nI ((fun _ => 0) i))), (pt, aR G 6 m (fun _ => none)), (a, oC 0 [.ref pt, .ref pn, .int (nI 0), .int (nI 0), .int (bI false), .int (bI false), .int (nI 0)])]) := by
  refine kL.of (by decide) (Nat.le_of_ble_eq_true rfl) ?_
  intro x C A TY CI
  replace CI := CI rfl
  show VL G x h0 [(a, oC 0 [.null, .null, .int (nI 0), .int (nI 0), .int (bI false), .int (bI false), .int (nI 0)])] 0 0 0 [(0, .ref a), (1, .int (nI m))] []
  refine w_aload_n C d_X0_init_0 0 rfl ?_
  refine w_obj C d_X0_init_1 tw_357 tw_21 tw_22 (by decide) (by decide) ?_
  refine w_aload_n C d_X0_init_4 0 rfl ?_
  refine w_iconst C d_X0_init_5 (v := (nI 0)) rfl ?_
  refine w_put C 0 d_X0_init_6 pf_RX0_7 rfl rfl rfl (Nat.le_of_ble_eq_true rfl) (fs' := [.null, .null, .int (nI 0), .int (nI 0), .int (bI false), .int (bI false), .int (nI 0)]) rfl (L' := [(a, oC 0 [.null, .null, .int (nI 0), .int (nI 0), .int (bI false), .int (bI false), .int (nI 0)])]) rfl ?_
  refine w_aload_n C d_X0_init_9 0 rfl ?_
  refine w_iconst C d_X0_init_10 (v := (nI 0)) rfl ?_
  refine w_put C 0 d_X0_init_11 pf_RX0_13 rfl rfl rfl (Nat.le_of_ble_eq_true rfl) (fs' := [.null, .null, .int (nI 0), .int (nI 0), .int (bI false), .int (bI false), .int (nI 0)]) rfl (L' := [(a, oC 0 [.null, .null, .int (nI 0), .int (nI 0), .int (bI false), .int (bI false), .int (nI 0)])]) rfl ?_
  refine w_aload_n C d_X0_init_14 0 rfl ?_
  refine w_iconst C d_X0_init_15 (v := (nI 0)) rfl ?_
  refine w_put C 0 d_X0_init_16 pf_RX0_16 rfl rfl rfl (Nat.le_of_ble_eq_true rfl) (fs' := [.null, .null, .int (nI 0), .int (nI 0), .int (bI false), .int (bI false), .int (nI 0)]) rfl (L' := [(a, oC 0 [.null, .null, .int (nI 0), .int (nI 0), .int (bI false), .int (bI false), .int (nI 0)])]) rfl ?_
  refine w_aload_n C d_X0_init_19 0 rfl ?_
  refine w_iconst C d_X0_init_20 (v := (nI 0)) rfl ?_
  refine w_put C 0 d_X0_init_21 pf_RX0_20 rfl rfl rfl (Nat.le_of_ble_eq_true rfl) (fs' := [.null, .null, .int (nI 0), .int (nI 0), .int (bI false), .int (bI false), .int (nI 0)]) rfl (L' := [(a, oC 0 [.null, .null, .int (nI 0), .int (nI 0), .int (bI false), .int (bI false), .int (nI 0)])]) rfl ?_
  refine w_aload_n C d_X0_init_24 0 rfl ?_
  refine w_iconst C d_X0_init_25 (v := (nI 0)) rfl ?_
  refine w_put C 0 d_X0_init_26 pf_RX0_23 rfl rfl rfl (Nat.le_of_ble_eq_true rfl) (fs' := [.null, .null, .int (nI 0), .int (nI 0), .int (bI false), .int (bI false), .int (nI 0)]) rfl (L' := [(a, oC 0 [.null, .null, .int (nI 0), .int (nI 0), .int (bI false), .int (bI false), .int (nI 0)])]) rfl ?_
  refine w_aload_n C d_X0_init_29 0 rfl ?_
  refine w_iload_n C d_X0_init_30 1 rfl ?_
  refine w_newR C d_X0_init_31 tw_358 (t := 6) (fun U q => q.2.2.1.2.2.2) rfl (by omega) (Nat.le_of_ble_eq_true rfl) (by show _ ≤ 16; omega) (fun pt => ?_)
  show VL G x h0 [(pt, aR G 6 m (fun _ => none)), (a, oC 0 [.null, .null, .int (nI 0), .int (nI 0), .int (bI false), .int (bI false), .int (nI 0)])] 1 (0 + m) 34 [(0, .ref a), (1, .int (nI m))] [.ref pt, .ref a]
  refine w_putF C CI 1 d_X0_init_34 pf_RX0_28 (fun q9 e9 => by cases e9; rfl) rfl rfl rfl (Nat.le_of_ble_eq_true rfl) (fs' := [.ref pt, .null, .int (nI 0), .int (nI 0), .int (bI false), .int (bI false), .int (nI 0)]) rfl (L' := [(pt, aR G 6 m (fun _ => none)), (a, oC 0 [.ref pt, .null, .int (nI 0), .int (nI 0), .int (bI false), .int (bI false), .int (nI 0)])]) rfl ?_
  refine w_aload_n C d_X0_init_37 0 rfl ?_
  refine w_iload_n C d_X0_init_38 1 rfl ?_
  refine w_newI C d_X0_init_39 tw_45 (by omega) (Nat.le_of_ble_eq_true rfl) (by show _ ≤ 16; omega) (fun pn => ?_)
  show VL G x h0 [(pn, aI G m (fun _ => 0)), (pt, aR G 6 m (fun _ => none)), (a, oC 0 [.ref pt, .null, .int (nI 0), .int (nI 0), .int (bI false), .int (bI false), .int (nI 0)])] 2 ((0 + m) + m) 41 [(0, .ref a), (1, .int (nI m))] [.ref pn, .ref a]
  refine w_putF C CI 2 d_X0_init_41 pf_RX0_32 (fun q9 e9 => by cases e9; rfl) rfl rfl rfl (Nat.le_of_ble_eq_true rfl) (fs' := [.ref pt, .ref pn, .int (nI 0), .int (nI 0), .int (bI false), .int (bI false), .int (nI 0)]) rfl (L' := [(pn, aI G m (fun _ => 0)), (pt, aR G 6 m (fun _ => none)), (a, oC 0 [.ref pt, .ref pn, .int (nI 0), .int (nI 0), .int (bI false), .int (bI false), .int (nI 0)])]) rfl ?_
  exact w_vret C A TY d_X0_init_44 (Nat.le_of_ble_eq_true rfl) (by show _ ≤ 16; omega) (⟨rfl, pt, pn, rfl⟩)
def dl_X0_takeTests : List (Nat × Instr × Nat) := [(0, .iconst 0, 1), (1, .istore_n 3, 1), (2, .iload_n 3, 1), (3, .aload_n 1, 1), (4, .getfield 28, 3), (7, .arraylength, 1), (8, .if_icmp .ge 50, 3), (11, .iload_n 2, 1), (12, .iload_n 3, 1), (13, .iadd, 1), (14, .aload_n 0, 1), (15, .getfield 28, 3), (18, .arraylength, 1), (19, .if_icmp .ge 39, 3), (22, .aload_n 0, 1), (23, .getfield 28, 3), (26, .iload_n 2, 1), (27, .iload_n 3, 1), (28, .iadd, 1), (29, .aload_n 1, 1), (30, .getfield 28, 3), (33, .iload_n 3, 1), (34, .aaload, 1), (35, .aastore, 1), (36, .aload_n 0, 1), (37, .getfield 32, 3), (40, .iload_n 2, 1), (41, .iload_n 3, 1), (42, .iadd, 1), (43, .aload_n 1, 1), (44, .getfield 32, 3), (47, .iload_n 3, 1), (48, .iaload, 1), (49, .iload_n 2, 1), (50, .ishl, 1), (51, .iastore, 1), (52, .iinc 3 1, 3), (55, .goto (-53), 3), (58, .aload_n 0, 1), (59, .dup, 1), (60, .getfield 23, 3), (63, .aload_n 1, 1), (64, .getfield 23, 3), (67, .ior, 1), (68, .putfield 23, 3), (71, .return_, 1)]
theorem dc_X0_takeTests : dnL cX0_takeTests dl_X0_takeTests = true := by decide +kernel
theorem d_X0_takeTests_0 : dn cX0_takeTests 0 (.iconst 0) 1 1 := dnAt dc_X0_takeTests 0 rfl rfl
theorem d_X0_takeTests_1 : dn cX0_takeTests 1 (.istore_n 3) 1 2 := dnAt dc_X0_takeTests 1 rfl rfl
theorem d_X0_takeTests_2 : dn cX0_takeTests 2 (.iload_n 3) 1 3 := dnAt dc_X0_takeTests 2 rfl rfl
theorem d_X0_takeTests_3 : dn cX0_takeTests 3 (.aload_n 1) 1 4 := dnAt dc_X0_takeTests 3 rfl rfl
theorem d_X0_takeTests_4 : dn cX0_takeTests 4 (.getfield 28) 3 7 := dnAt dc_X0_takeTests 4 rfl rfl
theorem d_X0_takeTests_7 : dn cX0_takeTests 7 (.arraylength) 1 8 := dnAt dc_X0_takeTests 5 rfl rfl
theorem d_X0_takeTests_8 : dn cX0_takeTests 8 (.if_icmp .ge 50) 3 11 := dnAt dc_X0_takeTests 6 rfl rfl
theorem d_X0_takeTests_11 : dn cX0_takeTests 11 (.iload_n 2) 1 12 := dnAt dc_X0_takeTests 7 rfl rfl
theorem d_X0_takeTests_12 : dn cX0_takeTests 12 (.iload_n 3) 1 13 := dnAt dc_X0_takeTests 8 rfl rfl
theorem d_X0_takeTests_13 : dn cX0_takeTests 13 (.iadd) 1 14 := dnAt dc_X0_takeTests 9 rfl rfl
theorem d_X0_takeTests_14 : dn cX0_takeTests 14 (.aload_n 0) 1 15 := dnAt dc_X0_takeTests 10 rfl rfl
theorem d_X0_takeTests_15 : dn cX0_takeTests 15 (.getfield 28) 3 18 := dnAt dc_X0_takeTests 11 rfl rfl
theorem d_X0_takeTests_18 : dn cX0_takeTests 18 (.arraylength) 1 19 := dnAt dc_X0_takeTests 12 rfl rfl
theorem d_X0_takeTests_19 : dn cX0_takeTests 19 (.if_icmp .ge 39) 3 22 := dnAt dc_X0_takeTests 13 rfl rfl
theorem d_X0_takeTests_22 : dn cX0_takeTests 22 (.aload_n 0) 1 23 := dnAt dc_X0_takeTests 14 rfl rfl
theorem d_X0_takeTests_23 : dn cX0_takeTests 23 (.getfield 28) 3 26 := dnAt dc_X0_takeTests 15 rfl rfl
theorem d_X0_takeTests_26 : dn cX0_takeTests 26 (.iload_n 2) 1 27 := dnAt dc_X0_takeTests 16 rfl rfl
theorem d_X0_takeTests_27 : dn cX0_takeTests 27 (.iload_n 3) 1 28 := dnAt dc_X0_takeTests 17 rfl rfl
theorem d_X0_takeTests_28 : dn cX0_takeTests 28 (.iadd) 1 29 := dnAt dc_X0_takeTests 18 rfl rfl
theorem d_X0_takeTests_29 : dn cX0_takeTests 29 (.aload_n 1) 1 30 := dnAt dc_X0_takeTests 19 rfl rfl
theorem d_X0_takeTests_30 : dn cX0_takeTests 30 (.getfield 28) 3 33 := dnAt dc_X0_takeTests 20 rfl rfl
theorem d_X0_takeTests_33 : dn cX0_takeTests 33 (.iload_n 3) 1 34 := dnAt dc_X0_takeTests 21 rfl rfl
theorem d_X0_takeTests_34 : dn cX0_takeTests 34 (.aaload) 1 35 := dnAt dc_X0_takeTests 22 rfl rfl
theorem d_X0_takeTests_35 : dn cX0_takeTests 35 (.aastore) 1 36 := dnAt dc_X0_takeTests 23 rfl rfl
theorem d_X0_takeTests_36 : dn cX0_takeTests 36 (.aload_n 0) 1 37 := dnAt dc_X0_takeTests 24 rfl rfl
theorem d_X0_takeTests_37 : dn cX0_takeTests 37 (.getfield 32) 3 40 := dnAt dc_X0_takeTests 25 rfl rfl
theorem d_X0_takeTests_40 : dn cX0_takeTests 40 (.iload_n 2) 1 41 := dnAt dc_X0_takeTests 26 rfl rfl
theorem d_X0_takeTests_41 : dn cX0_takeTests 41 (.iload_n 3) 1 42 := dnAt dc_X0_takeTests 27 rfl rfl
theorem d_X0_takeTests_42 : dn cX0_takeTests 42 (.iadd) 1 43 := dnAt dc_X0_takeTests 28 rfl rfl
theorem d_X0_takeTests_43 : dn cX0_takeTests 43 (.aload_n 1) 1 44 := dnAt dc_X0_takeTests 29 rfl rfl
theorem d_X0_takeTests_44 : dn cX0_takeTests 44 (.getfield 32) 3 47 := dnAt dc_X0_takeTests 30 rfl rfl
theorem d_X0_takeTests_47 : dn cX0_takeTests 47 (.iload_n 3) 1 48 := dnAt dc_X0_takeTests 31 rfl rfl
theorem d_X0_takeTests_48 : dn cX0_takeTests 48 (.iaload) 1 49 := dnAt dc_X0_takeTests 32 rfl rfl
theorem d_X0_takeTests_49 : dn cX0_takeTests 49 (.iload_n 2) 1 50 := dnAt dc_X0_takeTests 33 rfl rfl
theorem d_X0_takeTests_50 : dn cX0_takeTests 50 (.ishl) 1 51 := dnAt dc_X0_takeTests 34 rfl rfl
theorem d_X0_takeTests_51 : dn cX0_takeTests 51 (.iastore) 1 52 := dnAt dc_X0_takeTests 35 rfl rfl
theorem d_X0_takeTests_52 : dn cX0_takeTests 52 (.iinc 3 1) 3 55 := dnAt dc_X0_takeTests 36 rfl rfl
theorem d_X0_takeTests_55 : dn cX0_takeTests 55 (.goto (-53)) 3 58 := dnAt dc_X0_takeTests 37 rfl rfl
theorem d_X0_takeTests_58 : dn cX0_takeTests 58 (.aload_n 0) 1 59 := dnAt dc_X0_takeTests 38 rfl rfl
theorem d_X0_takeTests_59 : dn cX0_takeTests 59 (.dup) 1 60 := dnAt dc_X0_takeTests 39 rfl rfl
theorem d_X0_takeTests_60 : dn cX0_takeTests 60 (.getfield 23) 3 63 := dnAt dc_X0_takeTests 40 rfl rfl
theorem d_X0_takeTests_63 : dn cX0_takeTests 63 (.aload_n 1) 1 64 := dnAt dc_X0_takeTests 41 rfl rfl
theorem d_X0_takeTests_64 : dn cX0_takeTests 64 (.getfield 23) 3 67 := dnAt dc_X0_takeTests 42 rfl rfl
theorem d_X0_takeTests_67 : dn cX0_takeTests 67 (.ior) 1 68 := dnAt dc_X0_takeTests 43 rfl rfl
theorem d_X0_takeTests_68 : dn cX0_takeTests 68 (.putfield 23) 3 71 := dnAt dc_X0_takeTests 44 rfl rfl
theorem d_X0_takeTests_71 : dn cX0_takeTests 71 (.return_) 1 72 := dnAt dc_X0_takeTests 45 rfl rfl
set_option maxHeartbeats 4000000 in
set_option maxRecDepth 100000 in
theorem l_takeTests {l : Launch} {G : eG} {h0 : hp} {a pt pn N fi la rs sh : Nat} {no is : Bool} {F : Nat → Option Nat} {X : Nat → Nat} {o1 t1 n1 m1 f1 l1 r1 : Nat} {y1 i1 : Bool} {nx1 tt1 : Nat → Nat} (g1 : h0 o1 = some (oC 0 [.ref t1, .ref n1, .int (nI f1), .int (nI l1), .int (bI y1), .int (bI i1), .int (nI r1)])) (g2 : h0 t1 = some (aR G 6 m1 (fun j => if j < m1 then some (tt1 j) else none))) (g3 : h0 n1 = some (aI G m1 (fun j => nI (nx1 j)))) (g4 : ∀ j, j < m1 → ∃ fs, h0 (tt1 j) = some (oC 3 fs)) (hN : N ≤ 8) (hs : sh + m1 ≤ N) : kL l G h0 [(pn, aI G N (fun i => nI (X i))), (pt, aR G 6 N F), (a, oC 0 [.ref pt, .ref pn, .int (nI fi), .int (nI la), .int (bI no), .int (bI is), .int (nI rs)])] yX0_takeTests cX0_takeTests 4 (Option.none : Option Jvm.ClassFile.FieldType) { frames := 0, cells := 0, slots := 0, locals := 0 } [.ref a, .ref o1, .int (nI sh)] (fun v9 L9 => v9 = none ∧ L9 = [(pn, aI G N (fun i => nI (inX X nx1 sh m1 i))), (pt, aR G 6 N (inF F tt1 sh m1)), (a, oC 0 [.ref pt, .ref pn, .int (nI fi), .int (nI la), .int (bI no), .int (bI is), .int (nI (rs ||| r1))])]) := by
  refine kL.of (by decide) (Nat.le_of_ble_eq_true rfl) ?_
  intro x C A TY CI
  show VL G x h0 [(pn, aI G N (fun i => nI (X i))), (pt, aR G 6 N F), (a, oC 0 [.ref pt, .ref pn, .int (nI fi), .int (nI la), .int (bI no), .int (bI is), .int (nI rs)])] 0 0 0 [(0, .ref a), (1, .ref o1), (2, .int (nI sh))] []
  refine w_iconst C d_X0_takeTests_0 (v := (nI 0)) rfl ?_
  refine w_istore_n C d_X0_takeTests_1 (lv' := [(3, .int (nI 0)), (0, .ref a), (1, .ref o1), (2, .int (nI sh))]) (by decide) rfl ?_
  have loop_2 : ∀ (fuel : Nat) (k : Nat), (k ≤ m1) → (9 - k) < fuel → VL G x h0 [(pn, aI G N (fun i => nI (inX X nx1 sh k i))), (pt, aR G 6 N (inF F tt1 sh k)), (a, oC 0 [.ref pt, .ref pn, .int (nI fi), .int (nI la), .int (bI no), .int (bI is), .int (nI rs)])] 0 0 2 [(3, .int (nI k)), (0, .ref a), (1, .ref o1), (2, .int (nI sh))] [] := by
    intro fuel
    induction fuel with
    | zero => intro k hk hf9; exact absurd hf9 (Nat.not_lt_zero _)
    | succ fuel ih_2 =>
      intro k hk hf9
      refine w_iload_n C d_X0_takeTests_2 0 rfl ?_
      refine w_aload_n C d_X0_takeTests_3 2 rfl ?_
      refine w_getN C d_X0_takeTests_4 fd_RX0_28 (g1) (v := .ref t1) rfl ?_
      refine w_alenN C d_X0_takeTests_7 rfl (g2) ?_
      refine wn_icmp_ge C d_X0_takeTests_8 (tgt := 58) rfl (by omega) (by omega) (fun c_8 => ?_) (fun c_8 => ?_)
      · skip
        have e9 : k = m1 := by omega
        refine w_aload_n C d_X0_takeTests_58 1 rfl ?_
        refine w_dup C d_X0_takeTests_59 rfl ?_
        refine w_get C 2 d_X0_takeTests_60 fd_RX0_23 rfl (v := .int (nI rs)) rfl ?_
        refine w_aload_n C d_X0_takeTests_63 2 rfl ?_
        refine w_getN C d_X0_takeTests_64 fd_RX0_23 (g1) (v := .int (nI r1)) rfl ?_
        refine wn_ior C d_X0_takeTests_67 ?_
        refine w_put C 2 d_X0_takeTests_68 pf_RX0_23 rfl rfl rfl (Nat.le_of_ble_eq_true rfl) (fs' := [.ref pt, .ref pn, .int (nI fi), .int (nI la), .int (bI no), .int (bI is), .int (nI (rs ||| r1))]) rfl (L' := [(pn, aI G N (fun i => nI (inX X nx1 sh k i))), (pt, aR G 6 N (inF F tt1 sh k)), (a, oC 0 [.ref pt, .ref pn, .int (nI fi), .int (nI la), .int (bI no), .int (bI is), .int (nI (rs ||| r1))])]) rfl ?_
        exact w_vret C A TY d_X0_takeTests_71 (Nat.le_of_ble_eq_true rfl) (Nat.le_of_ble_eq_true rfl) (⟨rfl, by rw [e9]⟩)
      · skip
        refine w_iload_n C d_X0_takeTests_11 3 rfl ?_
        refine w_iload_n C d_X0_takeTests_12 0 rfl ?_
        refine wn_iadd C d_X0_takeTests_13 ?_
        refine w_aload_n C d_X0_takeTests_14 1 rfl ?_
        refine w_get C 2 d_X0_takeTests_15 fd_RX0_28 rfl (v := .ref pt) rfl ?_
        refine w_alen C 1 d_X0_takeTests_18 rfl rfl ?_
        refine wn_icmp_ge C d_X0_takeTests_19 (tgt := 58) rfl (by omega) (by omega) (fun c_19 => ?_) (fun c_19 => ?_)
        · skip
          exfalso; omega
        · skip
          obtain ⟨fs9, hfs9⟩ := g4 k (by omega)
          refine w_aload_n C d_X0_takeTests_22 1 rfl ?_
          refine w_get C 2 d_X0_takeTests_23 fd_RX0_28 rfl (v := .ref pt) rfl ?_
          refine w_iload_n C d_X0_takeTests_26 3 rfl ?_
          refine w_iload_n C d_X0_takeTests_27 0 rfl ?_
          refine wn_iadd C d_X0_takeTests_28 ?_
          refine w_aload_n C d_X0_takeTests_29 2 rfl ?_
          refine w_getN C d_X0_takeTests_30 fd_RX0_28 (g1) (v := .ref t1) rfl ?_
          refine w_iload_n C d_X0_takeTests_33 0 rfl ?_
          refine w_aaldN C d_X0_takeTests_34 rfl (g2) (by omega) (by omega) (if_pos (by omega)) ?_
          refine w_aast C 1 d_X0_takeTests_35 rfl rfl (hfs9) rfl (by omega) (by omega) (L' := [(pn, aI G N (fun i => nI (inX X nx1 sh k i))), (pt, aR G 6 N (va_up (inF F tt1 sh k) (sh + k) (some (tt1 k)))), (a, oC 0 [.ref pt, .ref pn, .int (nI fi), .int (nI la), .int (bI no), .int (bI is), .int (nI rs)])]) rfl ?_
          refine w_aload_n C d_X0_takeTests_36 1 rfl ?_
          refine w_get C 2 d_X0_takeTests_37 fd_RX0_32 rfl (v := .ref pn) rfl ?_
          refine w_iload_n C d_X0_takeTests_40 3 rfl ?_
          refine w_iload_n C d_X0_takeTests_41 0 rfl ?_
          refine wn_iadd C d_X0_takeTests_42 ?_
          refine w_aload_n C d_X0_takeTests_43 2 rfl ?_
          refine w_getN C d_X0_takeTests_44 fd_RX0_32 (g1) (v := .ref n1) rfl ?_
          refine w_iload_n C d_X0_takeTests_47 0 rfl ?_
          refine w_ialdN C d_X0_takeTests_48 (g3) (by omega) (by omega) ?_
          show VL G x h0 [(pn, aI G N (fun i => nI (inX X nx1 sh k i))), (pt, aR G 6 N (va_up (inF F tt1 sh k) (sh + k) (some (tt1 k)))), (a, oC 0 [.ref pt, .ref pn, .int (nI fi), .int (nI la), .int (bI no), .int (bI is), .int (nI rs)])] 0 0 49 [(3, .int (nI k)), (0, .ref a), (1, .ref o1), (2, .int (nI sh))] [.int (nI (nx1 k)), .int (nI (sh + k)), .ref pn]
          refine w_iload_n C d_X0_takeTests_49 3 rfl ?_
          refine wn_ishl C d_X0_takeTests_50 (by omega) ?_
          refine w_iast C 0 d_X0_takeTests_51 rfl (by omega) (by omega) (L' := [(pn, aI G N (upd (fun i => nI (inX X nx1 sh k i)) (sh + k) (nI ((nx1 k) * 2 ^ sh)))), (pt, aR G 6 N (va_up (inF F tt1 sh k) (sh + k) (some (tt1 k)))), (a, oC 0 [.ref pt, .ref pn, .int (nI fi), .int (nI la), .int (bI no), .int (bI is), .int (nI rs)])]) rfl ?_
          refine wn_iinc C d_X0_takeTests_52 (lv' := [(3, .int (nI (k + 1))), (0, .ref a), (1, .ref o1), (2, .int (nI sh))]) 0 rfl (nI_inc _ rfl) (by decide) rfl ?_
          refine w_goto C d_X0_takeTests_55 (tgt := 2) rfl ?_
          refine w_eq (L' := [(pn, aI G N (fun i => nI (inX X nx1 sh (k + 1) i))), (pt, aR G 6 N (inF F tt1 sh (k + 1))), (a, oC 0 [.ref pt, .ref pn, .int (nI fi), .int (nI la), .int (bI no), .int (bI is), .int (nI rs)])]) (by rw [inF_s, inX_s]) ?_
          exact ih_2 (k + 1) (by omega) (by omega)
  refine w_eq (L' := [(pn, aI G N (fun i => nI (inX X nx1 sh 0 i))), (pt, aR G 6 N (inF F tt1 sh 0)), (a, oC 0 [.ref pt, .ref pn, .int (nI fi), .int (nI la), .int (bI no), .int (bI is), .int (nI rs)])]) (by rw [inF_0, inX_0]) ?_
  exact loop_2 _ 0 (by omega) (Nat.lt_succ_self _)
