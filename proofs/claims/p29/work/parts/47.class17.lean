theorem tw_21 : (Jvm.Cond.instanceMethod ({ cls := "java/lang/Object", name := "<init>", desc := "()V" } : Jvm.MethodName)) ∈ TB := tb_of 21 (by decide +kernel) rfl
theorem tw_22 : (Jvm.Cond.code ({ cls := "java/lang/Object", name := "<init>", desc := "()V" } : Jvm.MethodName) object_method_1_code (1 : Nat) (Option.none : Option Jvm.ClassFile.FieldType)) ∈ TB := tb_of 22 (by decide +kernel) rfl
theorem tw_78 : (Jvm.Cond.arrayClass Jvm.ClassFile.FieldType.long) ∈ TB := tb_of 78 (by decide +kernel) rfl
theorem tw_337 : (Jvm.Cond.methodLink "Corpusline$TokenTest" (3 : Nat) ({ cls := "java/lang/Object", name := "<init>", desc := "()V" } : Jvm.MethodName)) ∈ TB := tb_of 337 (by decide +kernel) rfl
theorem pf_RX4_11 : pfOk RX4 11 3 0 (.array .long) true := ⟨_, _, _, tyX4, rfl, by decide, cw_3, tw_338, rfl, tyX4_ok, nmX4, rfl, by decide +kernel⟩
theorem pf_RX4_15 : pfOk RX4 15 3 1 .int false := ⟨_, _, _, tyX4, rfl, by decide, cw_3, tw_339, rfl, tyX4_ok, nmX4, rfl, by decide +kernel⟩
theorem pf_RX4_19 : pfOk RX4 19 3 2 .int false := ⟨_, _, _, tyX4, rfl, by decide, cw_3, tw_340, rfl, tyX4_ok, nmX4, rfl, by decide +kernel⟩
def dl_X4_init : List (Nat × Instr × Nat) := [(0, .aload_n 0, 1), (1, .invokespecial 3, 3), (4, .aload_n 0, 1), (5, .bipush 6, 2), (7, .newarray .long, 2), (9, .putfield 11, 3), (12, .aload_n 0, 1), (13, .iconst 0, 1), (14, .putfield 15, 3), (17, .aload_n 0, 1), (18, .iconst 0, 1), (19, .putfield 19, 3), (22, .return_, 1)]
theorem dc_X4_init : dnL cX4_init dl_X4_init = true := by decide +kernel
theorem d_X4_init_0 : dn cX4_init 0 (.aload_n 0) 1 1 := dnAt dc_X4_init 0 rfl rfl
theorem d_X4_init_1 : dn cX4_init 1 (.invokespecial 3) 3 4 := dnAt dc_X4_init 1 rfl rfl
theorem d_X4_init_4 : dn cX4_init 4 (.aload_n 0) 1 5 := dnAt dc_X4_init 2 rfl rfl
theorem d_X4_init_5 : dn cX4_init 5 (.bipush 6) 2 7 := dnAt dc_X4_init 3 rfl rfl
theorem d_X4_init_7 : dn cX4_init 7 (.newarray .long) 2 9 := dnAt dc_X4_init 4 rfl rfl
theorem d_X4_init_9 : dn cX4_init 9 (.putfield 11) 3 12 := dnAt dc_X4_init 5 rfl rfl
theorem d_X4_init_12 : dn cX4_init 12 (.aload_n 0) 1 13 := dnAt dc_X4_init 6 rfl rfl
theorem d_X4_init_13 : dn cX4_init 13 (.iconst 0) 1 14 := dnAt dc_X4_init 7 rfl rfl
theorem d_X4_init_14 : dn cX4_init 14 (.putfield 15) 3 17 := dnAt dc_X4_init 8 rfl rfl
theorem d_X4_init_17 : dn cX4_init 17 (.aload_n 0) 1 18 := dnAt dc_X4_init 9 rfl rfl
theorem d_X4_init_18 : dn cX4_init 18 (.iconst 0) 1 19 := dnAt dc_X4_init 10 rfl rfl
theorem d_X4_init_19 : dn cX4_init 19 (.putfield 19) 3 22 := dnAt dc_X4_init 11 rfl rfl
theorem d_X4_init_22 : dn cX4_init 22 (.return_) 1 23 := dnAt dc_X4_init 12 rfl rfl
set_option maxHeartbeats 4000000 in
set_option maxRecDepth 100000 in
theorem k_X4init {l : Launch} {G : eG} {a : Nat} {h : hp} (ha : h a = some (oC 3 [.null, .int (nI 0), .int (nI 0)])) : MC l G yX4_init cX4_init 1 none { frames := 1, cells := 1, slots := 6, locals := 40 } [.ref a] h (fun v h1 => v = none ∧ ∃ p, h p = none ∧ h1 p = some (aJ G 6 (fun _ => 0)) ∧ h1 a = some (oC 3 [.ref p, .int (nI 0), .int (nI 0)]) ∧ ∀ b e, b ≠ a → h b = some e → h1 b = some e) := by
  refine MC.of (by decide) (Nat.le_of_ble_eq_true rfl) ?_
  intro x C A TY CI
  replace CI := CI rfl
  show VV G x 0 0 h 0 [(0, .ref a)] []
  refine r_aload_n C d_X4_init_0 0 rfl ?_
  refine r_obj C d_X4_init_1 tw_337 tw_21 tw_22 (by decide) (by decide) ?_
  refine r_aload_n C d_X4_init_4 0 rfl ?_
  refine r_bipush C d_X4_init_5 (v := nI 6) rfl ?_
  refine r_newJ C d_X4_init_7 tw_78 (by decide) (Nat.le_of_ble_eq_true rfl) (Nat.le_of_ble_eq_true rfl) (fun p hp _ => ?_)
  have hpa : a ≠ p := fun z => by rw [z, hp] at ha; cases ha
  refine r_putF C CI d_X4_init_9 pf_RX4_11 (fun q9 e9 => by cases e9; rfl) ((hup_n hpa).trans ha) rfl rfl (Nat.le_of_ble_eq_true rfl) (fs' := [.ref p, .int (nI 0), .int (nI 0)]) rfl ?_
  refine r_aload_n C d_X4_init_12 0 rfl ?_
  refine r_iconst C d_X4_init_13 (v := nI 0) rfl ?_
  refine r_put C d_X4_init_14 pf_RX4_15 hup_s rfl rfl (Nat.le_of_ble_eq_true rfl) (fs' := [.ref p, .int (nI 0), .int (nI 0)]) rfl ?_
  refine r_aload_n C d_X4_init_17 0 rfl ?_
  refine r_iconst C d_X4_init_18 (v := nI 0) rfl ?_
  refine r_put C d_X4_init_19 pf_RX4_19 hup_s rfl rfl (Nat.le_of_ble_eq_true rfl) (fs' := [.ref p, .int (nI 0), .int (nI 0)]) rfl ?_
  refine r_vret C A TY d_X4_init_22 (Nat.le_of_ble_eq_true rfl) (Nat.le_of_ble_eq_true rfl) ⟨rfl, p, hp, ?_, hup_s, fun b e hb he => ?_⟩
  · rw [hup_n hpa.symm, hup_n hpa.symm, hup_n hpa.symm, hup_s]
  · rw [hup_n hb, hup_n hb, hup_n hb, hup_n (fun z => by rw [z, hp] at he; cases he), he]
