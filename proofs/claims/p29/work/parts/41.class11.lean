theorem tw_339 : (Jvm.Cond.fieldLink "Corpusline$TokenTest" (15 : Nat) "Corpusline$TokenTest" "sames" "I") ∈ TB := tb_of 339 (by decide +kernel) rfl
theorem tw_340 : (Jvm.Cond.fieldLink "Corpusline$TokenTest" (19 : Nat) "Corpusline$TokenTest" "labels" "I") ∈ TB := tb_of 340 (by decide +kernel) rfl
theorem tw_393 : (Jvm.Cond.methodLink "Corpusline$TokenTest" (33 : Nat) ({ cls := "Corpusline$Settings", name := "fieldOf", desc := "(I)I" } : Jvm.MethodName)) ∈ TB := tb_of 393 (by decide +kernel) rfl
theorem tw_533 : (Jvm.Cond.methodLink "Corpusline$TokenTest" (48 : Nat) ({ cls := "Corpusline$Settings", name := "withToken", desc := "(III)I" } : Jvm.MethodName)) ∈ TB := tb_of 533 (by decide +kernel) rfl
theorem tw_534 : (Jvm.Cond.static ({ cls := "Corpusline$Settings", name := "withToken", desc := "(III)I" } : Jvm.MethodName)) ∈ TB := tb_of 534 (by decide +kernel) rfl
theorem tw_535 : (Jvm.Cond.code ({ cls := "Corpusline$Settings", name := "withToken", desc := "(III)I" } : Jvm.MethodName) prog_4_method_4_code (3 : Nat) (Option.some Jvm.ClassFile.FieldType.int)) ∈ TB := tb_of 535 (by decide +kernel) rfl
theorem fd_RX4_15 : fdOk RX4 15 3 1 := ⟨_, _, _, rfl, by decide, cw_3, tw_339, rfl⟩
theorem fd_RX4_19 : fdOk RX4 19 3 2 := ⟨_, _, _, rfl, by decide, cw_3, tw_340, rfl⟩
theorem ok_RX4_33 : okS RX4 33 yX2_fieldOf cX2_fieldOf 1 (Option.some Jvm.ClassFile.FieldType.int) 1 := ⟨tw_393, tw_394, tw_14, tw_395, ⟨by decide, by decide, by decide +kernel⟩⟩
theorem ok_RX4_48 : okS RX4 48 yX2_withToken cX2_withToken 3 (Option.some Jvm.ClassFile.FieldType.int) 3 := ⟨tw_533, tw_534, tw_14, tw_535, ⟨by decide, by decide, by decide +kernel⟩⟩
/-- a test: its rows of passing values, what it compares, what it sets -/
def tst (G : eG) (ad : Nat → Nat → Nat) (h : hp) (a : Nat) (P : Nat → Nat) (s lb : Nat) : Prop := nr ad a ∧ ∃ p, nr ad p ∧ h a = some (oC 3 [.ref p, .int (nI s), .int (nI lb)]) ∧ h p = some (aJ G 6 (fun i => lN (P i)))
theorem tst.mv {G : eG} {ad : Nat → Nat → Nat} {h h' : hp} {a s lb : Nat} {P : Nat → Nat} (t : tst G ad h a P s lb) (c : cfr ad h h') : tst G ad h' a P s lb := by
  obtain ⟨na, p, np, ha, hp⟩ := t
  exact ⟨na, p, np, c a _ na.w ha, c p _ np.w hp⟩
/-- the settings behind a test -/
def sbF (lb s p : Nat) : Nat → Nat
  | 0 => s
  | k + 1 => if lb / 2 ^ k % 2 = 1 then stW (sbF lb s p k) k p else sbF lb s p k
/-- the settings that a test reads -/
def rsF (s : Nat) : Nat → Nat
  | 0 => 0
  | k + 1 => if s / 2 ^ k % 2 = 1 then rsF s k ||| stF (k % 3) else rsF s k
def dl_X4_settingsBehind : List (Nat × Instr × Nat) := [(0, .iload_n 1, 1), (1, .istore_n 3, 1), (2, .iconst 0, 1), (3, .istore 4, 2), (5, .iload 4, 2), (7, .iconst 3, 1), (8, .if_icmp .ge 29, 3), (11, .aload_n 0, 1), (12, .getfield 19, 3), (15, .iload 4, 2), (17, .ishr, 1), (18, .iconst 1, 1), (19, .iand, 1), (20, .ifCond .eq 11, 3), (23, .iload_n 3, 1), (24, .iload 4, 2), (26, .iload_n 2, 1), (27, .invokestatic 48, 3), (30, .istore_n 3, 1), (31, .iinc 4 1, 3), (34, .goto (-29), 3), (37, .iload_n 3, 1), (38, .ireturn, 1)]
theorem dc_X4_settingsBehind : dnL cX4_settingsBehind dl_X4_settingsBehind = true := by decide +kernel
theorem d_X4_settingsBehind_0 : dn cX4_settingsBehind 0 (.iload_n 1) 1 1 := dnAt dc_X4_settingsBehind 0 rfl rfl
theorem d_X4_settingsBehind_1 : dn cX4_settingsBehind 1 (.istore_n 3) 1 2 := dnAt dc_X4_settingsBehind 1 rfl rfl
theorem d_X4_settingsBehind_2 : dn cX4_settingsBehind 2 (.iconst 0) 1 3 := dnAt dc_X4_settingsBehind 2 rfl rfl
theorem d_X4_settingsBehind_3 : dn cX4_settingsBehind 3 (.istore 4) 2 5 := dnAt dc_X4_settingsBehind 3 rfl rfl
theorem d_X4_settingsBehind_5 : dn cX4_settingsBehind 5 (.iload 4) 2 7 := dnAt dc_X4_settingsBehind 4 rfl rfl
theorem d_X4_settingsBehind_7 : dn cX4_settingsBehind 7 (.iconst 3) 1 8 := dnAt dc_X4_settingsBehind 5 rfl rfl
theorem d_X4_settingsBehind_8 : dn cX4_settingsBehind 8 (.if_icmp .ge 29) 3 11 := dnAt dc_X4_settingsBehind 6 rfl rfl
theorem d_X4_settingsBehind_11 : dn cX4_settingsBehind 11 (.aload_n 0) 1 12 := dnAt dc_X4_settingsBehind 7 rfl rfl
theorem d_X4_settingsBehind_12 : dn cX4_settingsBehind 12 (.getfield 19) 3 15 := dnAt dc_X4_settingsBehind 8 rfl rfl
theorem d_X4_settingsBehind_15 : dn cX4_settingsBehind 15 (.iload 4) 2 17 := dnAt dc_X4_settingsBehind 9 rfl rfl
theorem d_X4_settingsBehind_17 : dn cX4_settingsBehind 17 (.ishr) 1 18 := dnAt dc_X4_settingsBehind 10 rfl rfl
theorem d_X4_settingsBehind_18 : dn cX4_settingsBehind 18 (.iconst 1) 1 19 := dnAt dc_X4_settingsBehind 11 rfl rfl
theorem d_X4_settingsBehind_19 : dn cX4_settingsBehind 19 (.iand) 1 20 := dnAt dc_X4_settingsBehind 12 rfl rfl
theorem d_X4_settingsBehind_20 : dn cX4_settingsBehind 20 (.ifCond .eq 11) 3 23 := dnAt dc_X4_settingsBehind 13 rfl rfl
theorem d_X4_settingsBehind_23 : dn cX4_settingsBehind 23 (.iload_n 3) 1 24 := dnAt dc_X4_settingsBehind 14 rfl rfl
theorem d_X4_settingsBehind_24 : dn cX4_settingsBehind 24 (.iload 4) 2 26 := dnAt dc_X4_settingsBehind 15 rfl rfl
theorem d_X4_settingsBehind_26 : dn cX4_settingsBehind 26 (.iload_n 2) 1 27 := dnAt dc_X4_settingsBehind 16 rfl rfl
theorem d_X4_settingsBehind_27 : dn cX4_settingsBehind 27 (.invokestatic 48) 3 30 := dnAt dc_X4_settingsBehind 17 rfl rfl
theorem d_X4_settingsBehind_30 : dn cX4_settingsBehind 30 (.istore_n 3) 1 31 := dnAt dc_X4_settingsBehind 18 rfl rfl
theorem d_X4_settingsBehind_31 : dn cX4_settingsBehind 31 (.iinc 4 1) 3 34 := dnAt dc_X4_settingsBehind 19 rfl rfl
theorem d_X4_settingsBehind_34 : dn cX4_settingsBehind 34 (.goto (-29)) 3 37 := dnAt dc_X4_settingsBehind 20 rfl rfl
theorem d_X4_settingsBehind_37 : dn cX4_settingsBehind 37 (.iload_n 3) 1 38 := dnAt dc_X4_settingsBehind 21 rfl rfl
theorem d_X4_settingsBehind_38 : dn cX4_settingsBehind 38 (.ireturn) 1 39 := dnAt dc_X4_settingsBehind 22 rfl rfl
set_option maxHeartbeats 4000000 in
set_option maxRecDepth 100000 in
theorem k_settingsBehind {l : Launch} {G : eG} {ad : Nat → Nat → Nat} {h : hp} {g : mS} {a s p sm lb : Nat} {P : Nat → Nat} (hm : co G ad g h) (T : tst G ad h a P sm lb) (hl : lb < 8) : kC l G ad h yX4_settingsBehind cX4_settingsBehind 5 (Option.some Jvm.ClassFile.FieldType.int) { frames := 2, cells := 0, slots := 0, locals := 42 } [.ref a, .int (nI s), .int (nI p)] (fun v9 g9 _ => v9 = some (.int (nI (sbF lb s p 3))) ∧ g9 = g) := by
  refine kC.of hm (by decide) (Nat.le_of_ble_eq_true rfl) ?_
  intro x C A TY
  show VC G x ad h g 0 0 0 [(0, .ref a), (1, .int (nI s)), (2, .int (nI p))] []
  have T0 := T
  obtain ⟨na, pp, np, hta, htp⟩ := T
  refine c_iload_n C d_X4_settingsBehind_0 1 rfl ?_
  refine c_istore_n C d_X4_settingsBehind_1 (lv' := [(3, .int (nI s)), (0, .ref a), (1, .int (nI s)), (2, .int (nI p))]) (by decide) rfl ?_
  refine c_iconst C d_X4_settingsBehind_2 (v := (nI 0)) rfl ?_
  refine c_istore C d_X4_settingsBehind_3 (lv' := [(4, .int (nI 0)), (3, .int (nI s)), (0, .ref a), (1, .int (nI s)), (2, .int (nI p))]) (by decide) rfl ?_
  have loop_5 : ∀ (fuel : Nat) (k : Nat), (k ≤ 3) → (4 - k) < fuel → VC G x ad h g 0 0 5 [(4, .int (nI k)), (3, .int (nI (sbF lb s p k))), (0, .ref a), (1, .int (nI s)), (2, .int (nI p))] [] := by
    intro fuel
    induction fuel with
    | zero => intro k hk hf9; exact absurd hf9 (Nat.not_lt_zero _)
    | succ fuel ih_5 =>
      intro k hk hf9
      refine c_iload C d_X4_settingsBehind_5 0 rfl ?_
      refine c_iconst C d_X4_settingsBehind_7 (v := (nI 3)) rfl ?_
      refine cn_icmp_ge C d_X4_settingsBehind_8 (tgt := 37) rfl (by omega) (by omega) (fun c_8 => ?_) (fun c_8 => ?_)
      · skip
        obtain rfl : k = 3 := by omega
        refine c_iload_n C d_X4_settingsBehind_37 1 rfl ?_
        exact k_iret C A cfr_rf TY d_X4_settingsBehind_38 rfl (Nat.le_of_ble_eq_true rfl) (Nat.le_of_ble_eq_true rfl) (fun h9 F9 => ⟨rfl, rfl⟩)
      · skip
        refine c_aload_n C d_X4_settingsBehind_11 2 rfl ?_
        refine c_getN C d_X4_settingsBehind_12 fd_RX4_19 (na) (hta) (v := .int (nI lb)) rfl ?_
        refine c_iload C d_X4_settingsBehind_15 0 rfl ?_
        refine cn_ishr C d_X4_settingsBehind_17 (by omega) (by omega) ?_
        refine c_iconst C d_X4_settingsBehind_18 (v := (nI 1)) rfl ?_
        refine cn_iand C d_X4_settingsBehind_19 ?_
        refine c_st (st' := [.int (nI (lb / 2 ^ k % 2))]) (by rw [and1]) ?_
        have join_31 : VC G x ad h g 0 0 31 [(4, .int (nI k)), (3, .int (nI (sbF lb s p (k + 1)))), (0, .ref a), (1, .int (nI s)), (2, .int (nI p))] [] := by
          refine cn_iinc C d_X4_settingsBehind_31 (lv' := [(4, .int (nI (k + 1))), (3, .int (nI (sbF lb s p (k + 1)))), (0, .ref a), (1, .int (nI s)), (2, .int (nI p))]) 0 rfl (nI_inc _ rfl) (by decide) rfl ?_
          refine c_goto C d_X4_settingsBehind_34 (tgt := 5) rfl ?_
          exact ih_5 (k + 1) (by omega) (by omega)
        refine cn_if_eq C d_X4_settingsBehind_20 (tgt := 31) rfl (by omega) (fun c_20 => ?_) (fun c_20 => ?_)
        · skip
          refine c_lve (lv' := [(4, .int (nI k)), (3, .int (nI (sbF lb s p (k + 1)))), (0, .ref a), (1, .int (nI s)), (2, .int (nI p))]) (by rw [sbF, if_neg (by omega)]) ?_
          exact join_31  
        · skip
          refine c_iload_n C d_X4_settingsBehind_23 1 rfl ?_
          refine c_iload C d_X4_settingsBehind_24 0 rfl ?_
          refine c_iload_n C d_X4_settingsBehind_26 4 rfl ?_
          refine k_callP C d_X4_settingsBehind_27 ok_RX4_48 (s_withToken (sbF lb s p k) k p (by omega)) (rest := []) rfl rfl (Nat.le_of_ble_eq_true rfl) ⟨⟨by decide, by decide⟩, Nat.le_of_ble_eq_true rfl, Nat.le_of_ble_eq_true rfl⟩ ?_
          show VC G x ad h g 0 0 30 [(4, .int (nI k)), (3, .int (nI (sbF lb s p k))), (0, .ref a), (1, .int (nI s)), (2, .int (nI p))] [.int (nI (stW (sbF lb s p k) k p))]
          refine c_istore_n C d_X4_settingsBehind_30 (lv' := [(3, .int (nI (stW (sbF lb s p k) k p))), (4, .int (nI k)), (0, .ref a), (1, .int (nI s)), (2, .int (nI p))]) (by decide) rfl ?_
          refine c_lv (lv' := [(4, .int (nI k)), (3, .int (nI (stW (sbF lb s p k) k p))), (0, .ref a), (1, .int (nI s)), (2, .int (nI p))]) [1, 0, 2, 3, 4] rfl ?_
          refine c_lve (lv' := [(4, .int (nI k)), (3, .int (nI (sbF lb s p (k + 1)))), (0, .ref a), (1, .int (nI s)), (2, .int (nI p))]) (by rw [sbF, if_pos (by omega)]) ?_
          exact join_31  
  refine c_lve (lv' := [(4, .int (nI 0)), (3, .int (nI (sbF lb s p 0))), (0, .ref a), (1, .int (nI s)), (2, .int (nI p))]) (rfl) ?_
  exact loop_5 _ 0 (by omega) (Nat.lt_succ_self _)
def dl_X4_readSettings : List (Nat × Instr × Nat) := [(0, .iconst 0, 1), (1, .istore_n 1, 1), (2, .iconst 0, 1), (3, .istore_n 2, 1), (4, .iload_n 2, 1), (5, .bipush 9, 2), (7, .if_icmp .ge 29, 3), (10, .aload_n 0, 1), (11, .getfield 15, 3), (14, .iload_n 2, 1), (15, .ishr, 1), (16, .iconst 1, 1), (17, .iand, 1), (18, .ifCond .eq 12, 3), (21, .iload_n 1, 1), (22, .iload_n 2, 1), (23, .iconst 3, 1), (24, .irem, 1), (25, .invokestatic 33, 3), (28, .ior, 1), (29, .istore_n 1, 1), (30, .iinc 2 1, 3), (33, .goto (-29), 3), (36, .iload_n 1, 1), (37, .ireturn, 1)]
theorem dc_X4_readSettings : dnL cX4_readSettings dl_X4_readSettings = true := by decide +kernel
theorem d_X4_readSettings_0 : dn cX4_readSettings 0 (.iconst 0) 1 1 := dnAt dc_X4_readSettings 0 rfl rfl
theorem d_X4_readSettings_1 : dn cX4_readSettings 1 (.istore_n 1) 1 2 := dnAt dc_X4_readSettings 1 rfl rfl
theorem d_X4_readSettings_2 : dn cX4_readSettings 2 (.iconst 0) 1 3 := dnAt dc_X4_readSettings 2 rfl rfl
theorem d_X4_readSettings_3 : dn cX4_readSettings 3 (.istore_n 2) 1 4 := dnAt dc_X4_readSettings 3 rfl rfl
theorem d_X4_readSettings_4 : dn cX4_readSettings 4 (.iload_n 2) 1 5 := dnAt dc_X4_readSettings 4 rfl rfl
theorem d_X4_readSettings_5 : dn cX4_readSettings 5 (.bipush 9) 2 7 := dnAt dc_X4_readSettings 5 rfl rfl
theorem d_X4_readSettings_7 : dn cX4_readSettings 7 (.if_icmp .ge 29) 3 10 := dnAt dc_X4_readSettings 6 rfl rfl
theorem d_X4_readSettings_10 : dn cX4_readSettings 10 (.aload_n 0) 1 11 := dnAt dc_X4_readSettings 7 rfl rfl
theorem d_X4_readSettings_11 : dn cX4_readSettings 11 (.getfield 15) 3 14 := dnAt dc_X4_readSettings 8 rfl rfl
theorem d_X4_readSettings_14 : dn cX4_readSettings 14 (.iload_n 2) 1 15 := dnAt dc_X4_readSettings 9 rfl rfl
theorem d_X4_readSettings_15 : dn cX4_readSettings 15 (.ishr) 1 16 := dnAt dc_X4_readSettings 10 rfl rfl
theorem d_X4_readSettings_16 : dn cX4_readSettings 16 (.iconst 1) 1 17 := dnAt dc_X4_readSettings 11 rfl rfl
theorem d_X4_readSettings_17 : dn cX4_readSettings 17 (.iand) 1 18 := dnAt dc_X4_readSettings 12 rfl rfl
theorem d_X4_readSettings_18 : dn cX4_readSettings 18 (.ifCond .eq 12) 3 21 := dnAt dc_X4_readSettings 13 rfl rfl
theorem d_X4_readSettings_21 : dn cX4_readSettings 21 (.iload_n 1) 1 22 := dnAt dc_X4_readSettings 14 rfl rfl
theorem d_X4_readSettings_22 : dn cX4_readSettings 22 (.iload_n 2) 1 23 := dnAt dc_X4_readSettings 15 rfl rfl
theorem d_X4_readSettings_23 : dn cX4_readSettings 23 (.iconst 3) 1 24 := dnAt dc_X4_readSettings 16 rfl rfl
theorem d_X4_readSettings_24 : dn cX4_readSettings 24 (.irem) 1 25 := dnAt dc_X4_readSettings 17 rfl rfl
theorem d_X4_readSettings_25 : dn cX4_readSettings 25 (.invokestatic 33) 3 28 := dnAt dc_X4_readSettings 18 rfl rfl
theorem d_X4_readSettings_28 : dn cX4_readSettings 28 (.ior) 1 29 := dnAt dc_X4_readSettings 19 rfl rfl
theorem d_X4_readSettings_29 : dn cX4_readSettings 29 (.istore_n 1) 1 30 := dnAt dc_X4_readSettings 20 rfl rfl
theorem d_X4_readSettings_30 : dn cX4_readSettings 30 (.iinc 2 1) 3 33 := dnAt dc_X4_readSettings 21 rfl rfl
theorem d_X4_readSettings_33 : dn cX4_readSettings 33 (.goto (-29)) 3 36 := dnAt dc_X4_readSettings 22 rfl rfl
theorem d_X4_readSettings_36 : dn cX4_readSettings 36 (.iload_n 1) 1 37 := dnAt dc_X4_readSettings 23 rfl rfl
theorem d_X4_readSettings_37 : dn cX4_readSettings 37 (.ireturn) 1 38 := dnAt dc_X4_readSettings 24 rfl rfl
set_option maxHeartbeats 4000000 in
set_option maxRecDepth 100000 in
theorem k_readSettings {l : Launch} {G : eG} {ad : Nat → Nat → Nat} {h : hp} {g : mS} {a s lb : Nat} {P : Nat → Nat} (hm : co G ad g h) (T : tst G ad h a P s lb) (hs : s < 512) : kC l G ad h yX4_readSettings cX4_readSettings 3 (Option.some Jvm.ClassFile.FieldType.int) { frames := 1, cells := 0, slots := 0, locals := 20 } [.ref a] (fun v9 g9 _ => v9 = some (.int (nI (rsF s 9))) ∧ g9 = g) := by
  refine kC.of hm (by decide) (Nat.le_of_ble_eq_true rfl) ?_
  intro x C A TY
  show VC G x ad h g 0 0 0 [(0, .ref a)] []
  have T0 := T
  obtain ⟨na, pp, np, hta, htp⟩ := T
  refine c_iconst C d_X4_readSettings_0 (v := (nI 0)) rfl ?_
  refine c_istore_n C d_X4_readSettings_1 (lv' := [(1, .int (nI 0)), (0, .ref a)]) (by decide) rfl ?_
  refine c_iconst C d_X4_readSettings_2 (v := (nI 0)) rfl ?_
  refine c_istore_n C d_X4_readSettings_3 (lv' := [(2, .int (nI 0)), (1, .int (nI 0)), (0, .ref a)]) (by decide) rfl ?_
  have loop_4 : ∀ (fuel : Nat) (k : Nat), (k ≤ 9) → (10 - k) < fuel → VC G x ad h g 0 0 4 [(2, .int (nI k)), (1, .int (nI (rsF s k))), (0, .ref a)] [] := by
    intro fuel
    induction fuel with
    | zero => intro k hk hf9; exact absurd hf9 (Nat.not_lt_zero _)
    | succ fuel ih_4 =>
      intro k hk hf9
      refine c_iload_n C d_X4_readSettings_4 0 rfl ?_
      refine c_bipush C d_X4_readSettings_5 (v := (nI 9)) rfl ?_
      refine cn_icmp_ge C d_X4_readSettings_7 (tgt := 36) rfl (by omega) (by omega) (fun c_7 => ?_) (fun c_7 => ?_)
      · skip
        obtain rfl : k = 9 := by omega
        refine c_iload_n C d_X4_readSettings_36 1 rfl ?_
        exact k_iret C A cfr_rf TY d_X4_readSettings_37 rfl (Nat.le_of_ble_eq_true rfl) (Nat.le_of_ble_eq_true rfl) (fun h9 F9 => ⟨rfl, rfl⟩)
      · skip
        refine c_aload_n C d_X4_readSettings_10 2 rfl ?_
        refine c_getN C d_X4_readSettings_11 fd_RX4_15 (na) (hta) (v := .int (nI s)) rfl ?_
        refine c_iload_n C d_X4_readSettings_14 0 rfl ?_
        refine cn_ishr C d_X4_readSettings_15 (by omega) (by omega) ?_
        refine c_iconst C d_X4_readSettings_16 (v := (nI 1)) rfl ?_
        refine cn_iand C d_X4_readSettings_17 ?_
        refine c_st (st' := [.int (nI (s / 2 ^ k % 2))]) (by rw [and1]) ?_
        have join_30 : VC G x ad h g 0 0 30 [(2, .int (nI k)), (1, .int (nI (rsF s (k + 1)))), (0, .ref a)] [] := by
          refine cn_iinc C d_X4_readSettings_30 (lv' := [(2, .int (nI (k + 1))), (1, .int (nI (rsF s (k + 1)))), (0, .ref a)]) 0 rfl (nI_inc _ rfl) (by decide) rfl ?_
          refine c_goto C d_X4_readSettings_33 (tgt := 4) rfl ?_
          exact ih_4 (k + 1) (by omega) (by omega)
        refine cn_if_eq C d_X4_readSettings_18 (tgt := 30) rfl (by omega) (fun c_18 => ?_) (fun c_18 => ?_)
        · skip
          refine c_lve (lv' := [(2, .int (nI k)), (1, .int (nI (rsF s (k + 1)))), (0, .ref a)]) (by rw [rsF, if_neg (by omega)]) ?_
          exact join_30  
        · skip
          refine c_iload_n C d_X4_readSettings_21 1 rfl ?_
          refine c_iload_n C d_X4_readSettings_22 0 rfl ?_
          refine c_iconst C d_X4_readSettings_23 (v := (nI 3)) rfl ?_
          refine cn_irem C d_X4_readSettings_24 (by omega) (by omega) (by omega) ?_
          refine k_callP C d_X4_readSettings_25 ok_RX4_33 (s_fieldOf (k % 3) (by omega)) (rest := [.int (nI (rsF s k))]) rfl rfl (Nat.le_of_ble_eq_true rfl) ⟨⟨by decide, by decide⟩, Nat.le_of_ble_eq_true rfl, Nat.le_of_ble_eq_true rfl⟩ ?_
          show VC G x ad h g 0 0 28 [(2, .int (nI k)), (1, .int (nI (rsF s k))), (0, .ref a)] [.int (nI (stF (k % 3))), .int (nI (rsF s k))]
          refine cn_ior C d_X4_readSettings_28 ?_
          refine c_istore_n C d_X4_readSettings_29 (lv' := [(1, .int (nI ((rsF s k) ||| (stF (k % 3))))), (2, .int (nI k)), (0, .ref a)]) (by decide) rfl ?_
          refine c_lv (lv' := [(2, .int (nI k)), (1, .int (nI ((rsF s k) ||| (stF (k % 3))))), (0, .ref a)]) [1, 0, 2] rfl ?_
          refine c_lve (lv' := [(2, .int (nI k)), (1, .int (nI (rsF s (k + 1)))), (0, .ref a)]) (by rw [rsF, if_pos (by omega)]) ?_
          exact join_30  
  refine c_lve (lv' := [(2, .int (nI 0)), (1, .int (nI (rsF s 0))), (0, .ref a)]) (rfl) ?_
  exact loop_4 _ 0 (by omega) (Nat.lt_succ_self _)
