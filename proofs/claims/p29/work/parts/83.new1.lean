theorem tw_50 : (Jvm.Cond.methodLink "Corpusline$Side" (3 : Nat) ({ cls := "java/lang/Object", name := "<init>", desc := "()V" } : Jvm.MethodName)) ∈ TB := tb_of 50 (by decide +kernel) rfl
theorem tw_61 : (Jvm.Cond.fieldLink "Corpusline$Side" (32 : Nat) "Corpusline$Side" "partners" "[J") ∈ TB := tb_of 61 (by decide +kernel) rfl
theorem pf_RX3_22 : pfOk RX3 22 2 3 (.array .int) true := ⟨_, _, _, tyX3, rfl, by decide, cw_2, tw_57, rfl, tyX3_ok, nmX3, rfl, by decide +kernel⟩
theorem pf_RX3_26 : pfOk RX3 26 2 4 (.array .int) true := ⟨_, _, _, tyX3, rfl, by decide, cw_2, tw_58, rfl, tyX3_ok, nmX3, rfl, by decide +kernel⟩
theorem pf_RX3_29 : pfOk RX3 29 2 5 (.array .int) true := ⟨_, _, _, tyX3, rfl, by decide, cw_2, tw_60, rfl, tyX3_ok, nmX3, rfl, by decide +kernel⟩
theorem pf_RX3_32 : pfOk RX3 32 2 6 (.array .long) true := ⟨_, _, _, tyX3, rfl, by decide, cw_2, tw_61, rfl, tyX3_ok, nmX3, rfl, by decide +kernel⟩
def dl_X3_init : List (Nat × Instr × Nat) := [(0, .aload_n 0, 1), (1, .invokespecial 3, 3), (4, .aload_n 0, 1), (5, .iconst 0, 1), (6, .putfield 9, 3), (9, .aload_n 0, 1), (10, .iconst 0, 1), (11, .putfield 15, 3), (14, .aload_n 0, 1), (15, .iconst 0, 1), (16, .putfield 19, 3), (19, .aload_n 0, 1), (20, .bipush 120, 2), (22, .newarray .int, 2), (24, .putfield 22, 3), (27, .aload_n 0, 1), (28, .bipush 40, 2), (30, .newarray .int, 2), (32, .putfield 26, 3), (35, .aload_n 0, 1), (36, .bipush 40, 2), (38, .newarray .int, 2), (40, .putfield 29, 3), (43, .aload_n 0, 1), (44, .bipush 40, 2), (46, .newarray .long, 2), (48, .putfield 32, 3), (51, .return_, 1)]
theorem dc_X3_init : dnL cX3_init dl_X3_init = true := by decide +kernel
theorem d_X3_init_0 : dn cX3_init 0 (.aload_n 0) 1 1 := dnAt dc_X3_init 0 rfl rfl
theorem d_X3_init_1 : dn cX3_init 1 (.invokespecial 3) 3 4 := dnAt dc_X3_init 1 rfl rfl
theorem d_X3_init_4 : dn cX3_init 4 (.aload_n 0) 1 5 := dnAt dc_X3_init 2 rfl rfl
theorem d_X3_init_5 : dn cX3_init 5 (.iconst 0) 1 6 := dnAt dc_X3_init 3 rfl rfl
theorem d_X3_init_6 : dn cX3_init 6 (.putfield 9) 3 9 := dnAt dc_X3_init 4 rfl rfl
theorem d_X3_init_9 : dn cX3_init 9 (.aload_n 0) 1 10 := dnAt dc_X3_init 5 rfl rfl
theorem d_X3_init_10 : dn cX3_init 10 (.iconst 0) 1 11 := dnAt dc_X3_init 6 rfl rfl
theorem d_X3_init_11 : dn cX3_init 11 (.putfield 15) 3 14 := dnAt dc_X3_init 7 rfl rfl
theorem d_X3_init_14 : dn cX3_init 14 (.aload_n 0) 1 15 := dnAt dc_X3_init 8 rfl rfl
theorem d_X3_init_15 : dn cX3_init 15 (.iconst 0) 1 16 := dnAt dc_X3_init 9 rfl rfl
theorem d_X3_init_16 : dn cX3_init 16 (.putfield 19) 3 19 := dnAt dc_X3_init 10 rfl rfl
theorem d_X3_init_19 : dn cX3_init 19 (.aload_n 0) 1 20 := dnAt dc_X3_init 11 rfl rfl
theorem d_X3_init_20 : dn cX3_init 20 (.bipush 120) 2 22 := dnAt dc_X3_init 12 rfl rfl
theorem d_X3_init_22 : dn cX3_init 22 (.newarray .int) 2 24 := dnAt dc_X3_init 13 rfl rfl
theorem d_X3_init_24 : dn cX3_init 24 (.putfield 22) 3 27 := dnAt dc_X3_init 14 rfl rfl
theorem d_X3_init_27 : dn cX3_init 27 (.aload_n 0) 1 28 := dnAt dc_X3_init 15 rfl rfl
theorem d_X3_init_28 : dn cX3_init 28 (.bipush 40) 2 30 := dnAt dc_X3_init 16 rfl rfl
theorem d_X3_init_30 : dn cX3_init 30 (.newarray .int) 2 32 := dnAt dc_X3_init 17 rfl rfl
theorem d_X3_init_32 : dn cX3_init 32 (.putfield 26) 3 35 := dnAt dc_X3_init 18 rfl rfl
theorem d_X3_init_35 : dn cX3_init 35 (.aload_n 0) 1 36 := dnAt dc_X3_init 19 rfl rfl
theorem d_X3_init_36 : dn cX3_init 36 (.bipush 40) 2 38 := dnAt dc_X3_init 20 rfl rfl
theorem d_X3_init_38 : dn cX3_init 38 (.newarray .int) 2 40 := dnAt dc_X3_init 21 rfl rfl
theorem d_X3_init_40 : dn cX3_init 40 (.putfield 29) 3 43 := dnAt dc_X3_init 22 rfl rfl
theorem d_X3_init_43 : dn cX3_init 43 (.aload_n 0) 1 44 := dnAt dc_X3_init 23 rfl rfl
theorem d_X3_init_44 : dn cX3_init 44 (.bipush 40) 2 46 := dnAt dc_X3_init 24 rfl rfl
theorem d_X3_init_46 : dn cX3_init 46 (.newarray .long) 2 48 := dnAt dc_X3_init 25 rfl rfl
theorem d_X3_init_48 : dn cX3_init 48 (.putfield 32) 3 51 := dnAt dc_X3_init 26 rfl rfl
theorem d_X3_init_51 : dn cX3_init 51 (.return_) 1 52 := dnAt dc_X3_init 27 rfl rfl
set_option maxHeartbeats 4000000 in
set_option maxRecDepth 100000 in
theorem l_X3init {l : Launch} {G : eG} {h0 : hp} {a : Nat} : kL l G h0 [(a, oC 2 [.int (nI 0), .int (bI false), .int (bI false), .null, .null, .null, .null])] yX3_init cX3_init 1 (Option.none : Option Jvm.ClassFile.FieldType) { frames := 1, cells := 4, slots := 240, locals := 20 } [.ref a] (fun v9 L9 => v9 = none ∧ ∃ p q s t, L9 = [(t, aJ G 40 (fun _ => 0)), (s, aI G 40 (fun _ => 0)), (q, aI G 40 (fun _ => 0)), (p, aI G 120 (fun _ => 0)), (a, oC 2 [.int (nI 0), .int (bI false), .int (bI false), .ref p, .ref q, .ref s, .ref t])]) := by
  refine kL.of (by decide) (Nat.le_of_ble_eq_true rfl) ?_
  intro x C A TY CI
  replace CI := CI rfl
  show VL G x h0 [(a, oC 2 [.int (nI 0), .int (bI false), .int (bI false), .null, .null, .null, .null])] 0 0 0 [(0, .ref a)] []
  refine w_aload_n C d_X3_init_0 0 rfl ?_
  refine w_obj C d_X3_init_1 tw_50 tw_21 tw_22 (by decide) (by decide) ?_
  refine w_aload_n C d_X3_init_4 0 rfl ?_
  refine w_iconst C d_X3_init_5 (v := (nI 0)) rfl ?_
  refine w_put C 0 d_X3_init_6 pf_RX3_9 rfl rfl rfl (Nat.le_of_ble_eq_true rfl) (fs' := [.int (nI 0), .int (bI false), .int (bI false), .null, .null, .null, .null]) rfl (L' := [(a, oC 2 [.int (nI 0), .int (bI false), .int (bI false), .null, .null, .null, .null])]) rfl ?_
  refine w_aload_n C d_X3_init_9 0 rfl ?_
  refine w_iconst C d_X3_init_10 (v := (nI 0)) rfl ?_
  refine w_put C 0 d_X3_init_11 pf_RX3_15 rfl rfl rfl (Nat.le_of_ble_eq_true rfl) (fs' := [.int (nI 0), .int (bI false), .int (bI false), .null, .null, .null, .null]) rfl (L' := [(a, oC 2 [.int (nI 0), .int (bI false), .int (bI false), .null, .null, .null, .null])]) rfl ?_
  refine w_aload_n C d_X3_init_14 0 rfl ?_
  refine w_iconst C d_X3_init_15 (v := (nI 0)) rfl ?_
  refine w_put C 0 d_X3_init_16 pf_RX3_19 rfl rfl rfl (Nat.le_of_ble_eq_true rfl) (fs' := [.int (nI 0), .int (bI false), .int (bI false), .null, .null, .null, .null]) rfl (L' := [(a, oC 2 [.int (nI 0), .int (bI false), .int (bI false), .null, .null, .null, .null])]) rfl ?_
  refine w_aload_n C d_X3_init_19 0 rfl ?_
  refine w_bipush C d_X3_init_20 (v := (nI 120)) rfl ?_
  refine w_newI C d_X3_init_22 tw_45 (by decide) (Nat.le_of_ble_eq_true rfl) (Nat.le_of_ble_eq_true rfl) (fun p => ?_)
  show VL G x h0 [(p, aI G 120 (fun _ => 0)), (a, oC 2 [.int (nI 0), .int (bI false), .int (bI false), .null, .null, .null, .null])] 1 120 24 [(0, .ref a)] [.ref p, .ref a]
  refine w_putF C CI 1 d_X3_init_24 pf_RX3_22 (fun q9 e9 => by cases e9; rfl) rfl rfl rfl (Nat.le_of_ble_eq_true rfl) (fs' := [.int (nI 0), .int (bI false), .int (bI false), .ref p, .null, .null, .null]) rfl (L' := [(p, aI G 120 (fun _ => 0)), (a, oC 2 [.int (nI 0), .int (bI false), .int (bI false), .ref p, .null, .null, .null])]) rfl ?_
  refine w_aload_n C d_X3_init_27 0 rfl ?_
  refine w_bipush C d_X3_init_28 (v := (nI 40)) rfl ?_
  refine w_newI C d_X3_init_30 tw_45 (by decide) (Nat.le_of_ble_eq_true rfl) (Nat.le_of_ble_eq_true rfl) (fun q => ?_)
  show VL G x h0 [(q, aI G 40 (fun _ => 0)), (p, aI G 120 (fun _ => 0)), (a, oC 2 [.int (nI 0), .int (bI false), .int (bI false), .ref p, .null, .null, .null])] 2 160 32 [(0, .ref a)] [.ref q, .ref a]
  refine w_putF C CI 2 d_X3_init_32 pf_RX3_26 (fun q9 e9 => by cases e9; rfl) rfl rfl rfl (Nat.le_of_ble_eq_true rfl) (fs' := [.int (nI 0), .int (bI false), .int (bI false), .ref p, .ref q, .null, .null]) rfl (L' := [(q, aI G 40 (fun _ => 0)), (p, aI G 120 (fun _ => 0)), (a, oC 2 [.int (nI 0), .int (bI false), .int (bI false), .ref p, .ref q, .null, .null])]) rfl ?_
  refine w_aload_n C d_X3_init_35 0 rfl ?_
  refine w_bipush C d_X3_init_36 (v := (nI 40)) rfl ?_
  refine w_newI C d_X3_init_38 tw_45 (by decide) (Nat.le_of_ble_eq_true rfl) (Nat.le_of_ble_eq_true rfl) (fun s => ?_)
  show VL G x h0 [(s, aI G 40 (fun _ => 0)), (q, aI G 40 (fun _ => 0)), (p, aI G 120 (fun _ => 0)), (a, oC 2 [.int (nI 0), .int (bI false), .int (bI false), .ref p, .ref q, .null, .null])] 3 200 40 [(0, .ref a)] [.ref s, .ref a]
  refine w_putF C CI 3 d_X3_init_40 pf_RX3_29 (fun q9 e9 => by cases e9; rfl) rfl rfl rfl (Nat.le_of_ble_eq_true rfl) (fs' := [.int (nI 0), .int (bI false), .int (bI false), .ref p, .ref q, .ref s, .null]) rfl (L' := [(s, aI G 40 (fun _ => 0)), (q, aI G 40 (fun _ => 0)), (p, aI G 120 (fun _ => 0)), (a, oC 2 [.int (nI 0), .int (bI false), .int (bI false), .ref p, .ref q, .ref s, .null])]) rfl ?_
  refine w_aload_n C d_X3_init_43 0 rfl ?_
  refine w_bipush C d_X3_init_44 (v := (nI 40)) rfl ?_
  refine w_newJ C d_X3_init_46 tw_78 (by decide) (Nat.le_of_ble_eq_true rfl) (Nat.le_of_ble_eq_true rfl) (fun t => ?_)
  show VL G x h0 [(t, aJ G 40 (fun _ => 0)), (s, aI G 40 (fun _ => 0)), (q, aI G 40 (fun _ => 0)), (p, aI G 120 (fun _ => 0)), (a, oC 2 [.int (nI 0), .int (bI false), .int (bI false), .ref p, .ref q, .ref s, .null])] 4 240 48 [(0, .ref a)] [.ref t, .ref a]
  refine w_putF C CI 4 d_X3_init_48 pf_RX3_32 (fun q9 e9 => by cases e9; rfl) rfl rfl rfl (Nat.le_of_ble_eq_true rfl) (fs' := [.int (nI 0), .int (bI false), .int (bI false), .ref p, .ref q, .ref s, .ref t]) rfl (L' := [(t, aJ G 40 (fun _ => 0)), (s, aI G 40 (fun _ => 0)), (q, aI G 40 (fun _ => 0)), (p, aI G 120 (fun _ => 0)), (a, oC 2 [.int (nI 0), .int (bI false), .int (bI false), .ref p, .ref q, .ref s, .ref t])]) rfl ?_
  exact w_vret C A TY d_X3_init_51 (Nat.le_of_ble_eq_true rfl) (Nat.le_of_ble_eq_true rfl) (⟨rfl, p, q, s, t, rfl⟩)
set_option maxHeartbeats 4000000 in
set_option maxRecDepth 100000 in
theorem l_X1init {l : Launch} {G : eG} {h0 : hp} {a : Nat} : kL l G h0 [(a, oC 1 [.int (bI false), .int (nI 0), .null])] yX1_init cX1_init 1 (Option.none : Option Jvm.ClassFile.FieldType) { frames := 1, cells := 1, slots := 40, locals := 20 } [.ref a] (fun v9 L9 => v9 = none ∧ ∃ p, L9 = [(p, aI G 40 (fun _ => 0)), (a, oC 1 [.int (bI false), .int (nI 0), .ref p])]) := by
  refine kL.of (by decide) (Nat.le_of_ble_eq_true rfl) ?_
  intro x C A TY CI
  replace CI := CI rfl
  show VL G x h0 [(a, oC 1 [.int (bI false), .int (nI 0), .null])] 0 0 0 [(0, .ref a)] []
  refine w_aload_n C d_X1_init_0 0 rfl ?_
  refine w_obj C d_X1_init_1 tw_83 tw_21 tw_22 (by decide) (by decide) ?_
  refine w_aload_n C d_X1_init_4 0 rfl ?_
  refine w_iconst C d_X1_init_5 (v := (nI 0)) rfl ?_
  refine w_put C 0 d_X1_init_6 pf_RX1_9 rfl rfl rfl (Nat.le_of_ble_eq_true rfl) (fs' := [.int (bI false), .int (nI 0), .null]) rfl (L' := [(a, oC 1 [.int (bI false), .int (nI 0), .null])]) rfl ?_
  refine w_aload_n C d_X1_init_9 0 rfl ?_
  refine w_iconst C d_X1_init_10 (v := (nI 0)) rfl ?_
  refine w_put C 0 d_X1_init_11 pf_RX1_15 rfl rfl rfl (Nat.le_of_ble_eq_true rfl) (fs' := [.int (bI false), .int (nI 0), .null]) rfl (L' := [(a, oC 1 [.int (bI false), .int (nI 0), .null])]) rfl ?_
  refine w_aload_n C d_X1_init_14 0 rfl ?_
  refine w_bipush C d_X1_init_15 (v := (nI 40)) rfl ?_
  refine w_newI C d_X1_init_17 tw_45 (by decide) (Nat.le_of_ble_eq_true rfl) (Nat.le_of_ble_eq_true rfl) (fun p => ?_)
  show VL G x h0 [(p, aI G 40 (fun _ => 0)), (a, oC 1 [.int (bI false), .int (nI 0), .null])] 1 40 19 [(0, .ref a)] [.ref p, .ref a]
  refine w_putF C CI 1 d_X1_init_19 pf_RX1_19 (fun q9 e9 => by cases e9; rfl) rfl rfl rfl (Nat.le_of_ble_eq_true rfl) (fs' := [.int (bI false), .int (nI 0), .ref p]) rfl (L' := [(p, aI G 40 (fun _ => 0)), (a, oC 1 [.int (bI false), .int (nI 0), .ref p])]) rfl ?_
  exact w_vret C A TY d_X1_init_22 (Nat.le_of_ble_eq_true rfl) (Nat.le_of_ble_eq_true rfl) (⟨rfl, p, rfl⟩)
set_option maxHeartbeats 4000000 in
set_option maxRecDepth 100000 in
theorem l_X5init {l : Launch} {G : eG} {h0 : hp} {a : Nat} : kL l G h0 [(a, oC 4 [.null, .null, .int (nI 0)])] yX5_init cX5_init 1 (Option.none : Option Jvm.ClassFile.FieldType) { frames := 1, cells := 2, slots := 140, locals := 20 } [.ref a] (fun v9 L9 => v9 = none ∧ ∃ p q, L9 = [(q, aI G 70 (fun _ => 0)), (p, aI G 70 (fun _ => 0)), (a, oC 4 [.ref p, .ref q, .int (nI 0)])]) := by
  refine kL.of (by decide) (Nat.le_of_ble_eq_true rfl) ?_
  intro x C A TY CI
  replace CI := CI rfl
  show VL G x h0 [(a, oC 4 [.null, .null, .int (nI 0)])] 0 0 0 [(0, .ref a)] []
  refine w_aload_n C d_X5_init_0 0 rfl ?_
  refine w_obj C d_X5_init_1 tw_34 tw_21 tw_22 (by decide) (by decide) ?_
  refine w_aload_n C d_X5_init_4 0 rfl ?_
  refine w_bipush C d_X5_init_5 (v := (nI 70)) rfl ?_
  refine w_newI C d_X5_init_7 tw_45 (by decide) (Nat.le_of_ble_eq_true rfl) (Nat.le_of_ble_eq_true rfl) (fun p => ?_)
  show VL G x h0 [(p, aI G 70 (fun _ => 0)), (a, oC 4 [.null, .null, .int (nI 0)])] 1 70 9 [(0, .ref a)] [.ref p, .ref a]
  refine w_put C 1 d_X5_init_9 pf_RX5_11 rfl rfl rfl (Nat.le_of_ble_eq_true rfl) (fs' := [.ref p, .null, .int (nI 0)]) rfl (L' := [(p, aI G 70 (fun _ => 0)), (a, oC 4 [.ref p, .null, .int (nI 0)])]) rfl ?_
  refine w_aload_n C d_X5_init_12 0 rfl ?_
  refine w_bipush C d_X5_init_13 (v := (nI 70)) rfl ?_
  refine w_newI C d_X5_init_15 tw_45 (by decide) (Nat.le_of_ble_eq_true rfl) (Nat.le_of_ble_eq_true rfl) (fun q => ?_)
  show VL G x h0 [(q, aI G 70 (fun _ => 0)), (p, aI G 70 (fun _ => 0)), (a, oC 4 [.ref p, .null, .int (nI 0)])] 2 140 17 [(0, .ref a)] [.ref q, .ref a]
  refine w_put C 2 d_X5_init_17 pf_RX5_15 rfl rfl rfl (Nat.le_of_ble_eq_true rfl) (fs' := [.ref p, .ref q, .int (nI 0)]) rfl (L' := [(q, aI G 70 (fun _ => 0)), (p, aI G 70 (fun _ => 0)), (a, oC 4 [.ref p, .ref q, .int (nI 0)])]) rfl ?_
  refine w_aload_n C d_X5_init_20 0 rfl ?_
  refine w_iconst C d_X5_init_21 (v := (nI 0)) rfl ?_
  refine w_put C 2 d_X5_init_22 pf_RX5_18 rfl rfl rfl (Nat.le_of_ble_eq_true rfl) (fs' := [.ref p, .ref q, .int (nI 0)]) rfl (L' := [(q, aI G 70 (fun _ => 0)), (p, aI G 70 (fun _ => 0)), (a, oC 4 [.ref p, .ref q, .int (nI 0)])]) rfl ?_
  exact w_vret C A TY d_X5_init_25 (Nat.le_of_ble_eq_true rfl) (Nat.le_of_ble_eq_true rfl) (⟨rfl, p, q, rfl⟩)
