theorem tw_45 : (Jvm.Cond.arrayClass Jvm.ClassFile.FieldType.int) ∈ TB := tb_of 45 (by decide +kernel) rfl
theorem tw_83 : (Jvm.Cond.methodLink "Corpusline$Result" (3 : Nat) ({ cls := "java/lang/Object", name := "<init>", desc := "()V" } : Jvm.MethodName)) ∈ TB := tb_of 83 (by decide +kernel) rfl
theorem pf_RX1_19 : pfOk RX1 19 1 2 (.array .int) true := ⟨_, _, _, tyX1, rfl, by decide, cw_1, tw_88, rfl, tyX1_ok, nmX1, rfl, by decide +kernel⟩
def dl_X1_init : List (Nat × Instr × Nat) := [(0, .aload_n 0, 1), (1, .invokespecial 3, 3), (4, .aload_n 0, 1), (5, .iconst 0, 1), (6, .putfield 9, 3), (9, .aload_n 0, 1), (10, .iconst 0, 1), (11, .putfield 15, 3), (14, .aload_n 0, 1), (15, .bipush 40, 2), (17, .newarray .int, 2), (19, .putfield 19, 3), (22, .return_, 1)]
theorem dc_X1_init : dnL cX1_init dl_X1_init = true := by decide +kernel
theorem d_X1_init_0 : dn cX1_init 0 (.aload_n 0) 1 1 := dnAt dc_X1_init 0 rfl rfl
theorem d_X1_init_1 : dn cX1_init 1 (.invokespecial 3) 3 4 := dnAt dc_X1_init 1 rfl rfl
theorem d_X1_init_4 : dn cX1_init 4 (.aload_n 0) 1 5 := dnAt dc_X1_init 2 rfl rfl
theorem d_X1_init_5 : dn cX1_init 5 (.iconst 0) 1 6 := dnAt dc_X1_init 3 rfl rfl
theorem d_X1_init_6 : dn cX1_init 6 (.putfield 9) 3 9 := dnAt dc_X1_init 4 rfl rfl
theorem d_X1_init_9 : dn cX1_init 9 (.aload_n 0) 1 10 := dnAt dc_X1_init 5 rfl rfl
theorem d_X1_init_10 : dn cX1_init 10 (.iconst 0) 1 11 := dnAt dc_X1_init 6 rfl rfl
theorem d_X1_init_11 : dn cX1_init 11 (.putfield 15) 3 14 := dnAt dc_X1_init 7 rfl rfl
theorem d_X1_init_14 : dn cX1_init 14 (.aload_n 0) 1 15 := dnAt dc_X1_init 8 rfl rfl
theorem d_X1_init_15 : dn cX1_init 15 (.bipush 40) 2 17 := dnAt dc_X1_init 9 rfl rfl
theorem d_X1_init_17 : dn cX1_init 17 (.newarray .int) 2 19 := dnAt dc_X1_init 10 rfl rfl
theorem d_X1_init_19 : dn cX1_init 19 (.putfield 19) 3 22 := dnAt dc_X1_init 11 rfl rfl
theorem d_X1_init_22 : dn cX1_init 22 (.return_) 1 23 := dnAt dc_X1_init 12 rfl rfl
set_option maxHeartbeats 4000000 in
set_option maxRecDepth 100000 in
theorem k_X1init {l : Launch} {G : eG} {a : Nat} {h : hp} (ha : h a = some (oC 1 [.int (nI 0), .int (nI 0), .null])) : MC l G yX1_init cX1_init 1 none { frames := 1, cells := 1, slots := 40, locals := 40 } [.ref a] h (fun v h1 => v = none ∧ ∃ p, h p = none ∧ h1 p = some (aI G 40 (fun _ => 0)) ∧ h1 a = some (oC 1 [.int (nI 0), .int (nI 0), .ref p]) ∧ ∀ b e, b ≠ a → h b = some e → h1 b = some e) := by
  refine MC.of (by decide) (Nat.le_of_ble_eq_true rfl) ?_
  intro x C A TY CI
  replace CI := CI rfl
  show VV G x 0 0 h 0 [(0, .ref a)] []
  refine r_aload_n C d_X1_init_0 0 rfl ?_
  refine r_obj C d_X1_init_1 tw_83 tw_21 tw_22 (by decide) (by decide) ?_
  refine r_aload_n C d_X1_init_4 0 rfl ?_
  refine r_iconst C d_X1_init_5 (v := nI 0) rfl ?_
  refine r_put C d_X1_init_6 pf_RX1_9 ha rfl rfl (Nat.le_of_ble_eq_true rfl) (fs' := [.int (nI 0), .int (nI 0), .null]) rfl ?_
  refine r_aload_n C d_X1_init_9 0 rfl ?_
  refine r_iconst C d_X1_init_10 (v := nI 0) rfl ?_
  refine r_put C d_X1_init_11 pf_RX1_15 hup_s rfl rfl (Nat.le_of_ble_eq_true rfl) (fs' := [.int (nI 0), .int (nI 0), .null]) rfl ?_
  refine r_aload_n C d_X1_init_14 0 rfl ?_
  refine r_bipush C d_X1_init_15 (v := nI 40) rfl ?_
  refine r_newI C d_X1_init_17 tw_45 (by decide) (Nat.le_of_ble_eq_true rfl) (Nat.le_of_ble_eq_true rfl) (fun p hp _ => ?_)
  have hpa : a ≠ p := fun z => by subst z; first | (rw [ha] at hp; cases hp) | (rw [hup_s] at hp; cases hp)
  refine r_putF C CI d_X1_init_19 pf_RX1_19 (fun q9 e9 => by cases e9; rfl) ((hup_n hpa).trans hup_s) rfl rfl (Nat.le_of_ble_eq_true rfl) (fs' := [.int (nI 0), .int (nI 0), .ref p]) rfl ?_
  refine r_vret C A TY d_X1_init_22 (Nat.le_of_ble_eq_true rfl) (Nat.le_of_ble_eq_true rfl) ⟨rfl, p, ?_, ?_, hup_s, fun b e hb he => ?_⟩
  · rw [hup_n hpa.symm, hup_n hpa.symm] at hp; exact hp
  · rw [hup_n hpa.symm, hup_s]
  · rw [hup_n hb, hup_n (fun z => by subst z; rw [hup_n hb, hup_n hb, he] at hp; cases hp), hup_n hb, hup_n hb, he]
