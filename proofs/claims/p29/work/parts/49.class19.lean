theorem tw_34 : (Jvm.Cond.methodLink "Corpusline$Walker" (5 : Nat) ({ cls := "java/lang/Object", name := "<init>", desc := "()V" } : Jvm.MethodName)) ∈ TB := tb_of 34 (by decide +kernel) rfl
theorem tw_35 : (Jvm.Cond.fieldLink "Corpusline$Walker" (11 : Nat) "Corpusline$Walker" "ways" "[I") ∈ TB := tb_of 35 (by decide +kernel) rfl
theorem tw_37 : (Jvm.Cond.fieldLink "Corpusline$Walker" (18 : Nat) "Corpusline$Walker" "wayCount" "I") ∈ TB := tb_of 37 (by decide +kernel) rfl
theorem pf_RX5_11 : pfOk RX5 11 4 0 (.array .int) false := ⟨_, _, _, tyX5, rfl, by decide, cw_4, tw_35, rfl, tyX5_ok, nmX5, rfl, by decide +kernel⟩
theorem pf_RX5_15 : pfOk RX5 15 4 1 (.array .int) false := ⟨_, _, _, tyX5, rfl, by decide, cw_4, tw_36, rfl, tyX5_ok, nmX5, rfl, by decide +kernel⟩
theorem pf_RX5_18 : pfOk RX5 18 4 2 .int false := ⟨_, _, _, tyX5, rfl, by decide, cw_4, tw_37, rfl, tyX5_ok, nmX5, rfl, by decide +kernel⟩
def dl_X5_init : List (Nat × Instr × Nat) := [(0, .aload_n 0, 1), (1, .invokespecial 5, 3), (4, .aload_n 0, 1), (5, .bipush 70, 2), (7, .newarray .int, 2), (9, .putfield 11, 3), (12, .aload_n 0, 1), (13, .bipush 70, 2), (15, .newarray .int, 2), (17, .putfield 15, 3), (20, .aload_n 0, 1), (21, .iconst 0, 1), (22, .putfield 18, 3), (25, .return_, 1)]
theorem dc_X5_init : dnL cX5_init dl_X5_init = true := by decide +kernel
theorem d_X5_init_0 : dn cX5_init 0 (.aload_n 0) 1 1 := dnAt dc_X5_init 0 rfl rfl
theorem d_X5_init_1 : dn cX5_init 1 (.invokespecial 5) 3 4 := dnAt dc_X5_init 1 rfl rfl
theorem d_X5_init_4 : dn cX5_init 4 (.aload_n 0) 1 5 := dnAt dc_X5_init 2 rfl rfl
theorem d_X5_init_5 : dn cX5_init 5 (.bipush 70) 2 7 := dnAt dc_X5_init 3 rfl rfl
theorem d_X5_init_7 : dn cX5_init 7 (.newarray .int) 2 9 := dnAt dc_X5_init 4 rfl rfl
theorem d_X5_init_9 : dn cX5_init 9 (.putfield 11) 3 12 := dnAt dc_X5_init 5 rfl rfl
theorem d_X5_init_12 : dn cX5_init 12 (.aload_n 0) 1 13 := dnAt dc_X5_init 6 rfl rfl
theorem d_X5_init_13 : dn cX5_init 13 (.bipush 70) 2 15 := dnAt dc_X5_init 7 rfl rfl
theorem d_X5_init_15 : dn cX5_init 15 (.newarray .int) 2 17 := dnAt dc_X5_init 8 rfl rfl
theorem d_X5_init_17 : dn cX5_init 17 (.putfield 15) 3 20 := dnAt dc_X5_init 9 rfl rfl
theorem d_X5_init_20 : dn cX5_init 20 (.aload_n 0) 1 21 := dnAt dc_X5_init 10 rfl rfl
theorem d_X5_init_21 : dn cX5_init 21 (.iconst 0) 1 22 := dnAt dc_X5_init 11 rfl rfl
theorem d_X5_init_22 : dn cX5_init 22 (.putfield 18) 3 25 := dnAt dc_X5_init 12 rfl rfl
theorem d_X5_init_25 : dn cX5_init 25 (.return_) 1 26 := dnAt dc_X5_init 13 rfl rfl
set_option maxHeartbeats 4000000 in
set_option maxRecDepth 100000 in
theorem k_X5init {l : Launch} {G : eG} {a : Nat} {h : hp} (ha : h a = some (oC 4 [.null, .null, .int (nI 0)])) : MC l G yX5_init cX5_init 1 none { frames := 1, cells := 2, slots := 140, locals := 40 } [.ref a] h (fun v h1 => v = none ∧ ∃ p q, h p = none ∧ h q = none ∧ p ≠ q ∧ h1 p = some (aI G 70 (fun _ => 0)) ∧ h1 q = some (aI G 70 (fun _ => 0)) ∧ h1 a = some (oC 4 [.ref p, .ref q, .int (nI 0)]) ∧ ∀ b e, b ≠ a → h b = some e → h1 b = some e) := by
  refine MC.of (by decide) (Nat.le_of_ble_eq_true rfl) ?_
  intro x C A TY CI
  replace CI := CI rfl
  show VV G x 0 0 h 0 [(0, .ref a)] []
  refine r_aload_n C d_X5_init_0 0 rfl ?_
  refine r_obj C d_X5_init_1 tw_34 tw_21 tw_22 (by decide) (by decide) ?_
  refine r_aload_n C d_X5_init_4 0 rfl ?_
  refine r_bipush C d_X5_init_5 (v := nI 70) rfl ?_
  refine r_newI C d_X5_init_7 tw_45 (by decide) (Nat.le_of_ble_eq_true rfl) (Nat.le_of_ble_eq_true rfl) (fun p hp _ => ?_)
  have hpa : a ≠ p := fun z => by subst z; rw [ha] at hp; cases hp
  refine r_put C d_X5_init_9 pf_RX5_11 ((hup_n hpa).trans ha) rfl rfl (Nat.le_of_ble_eq_true rfl) (fs' := [.ref p, .null, .int (nI 0)]) rfl ?_
  refine r_aload_n C d_X5_init_12 0 rfl ?_
  refine r_bipush C d_X5_init_13 (v := nI 70) rfl ?_
  refine r_newI C d_X5_init_15 tw_45 (by decide) (Nat.le_of_ble_eq_true rfl) (Nat.le_of_ble_eq_true rfl) (fun q hq _ => ?_)
  have hqa : a ≠ q := fun z => by subst z; rw [hup_s] at hq; cases hq
  have hqp : p ≠ q := fun z => by subst z; rw [hup_n hpa.symm, hup_s] at hq; cases hq
  have hq0 : h q = none := by rw [hup_n hqa.symm, hup_n hqp.symm] at hq; exact hq
  refine r_put C d_X5_init_17 pf_RX5_15 ((hup_n hqa).trans hup_s) rfl rfl (Nat.le_of_ble_eq_true rfl) (fs' := [.ref p, .ref q, .int (nI 0)]) rfl ?_
  refine r_aload_n C d_X5_init_20 0 rfl ?_
  refine r_iconst C d_X5_init_21 (v := nI 0) rfl ?_
  refine r_put C d_X5_init_22 pf_RX5_18 hup_s rfl rfl (Nat.le_of_ble_eq_true rfl) (fs' := [.ref p, .ref q, .int (nI 0)]) rfl ?_
  refine r_vret C A TY d_X5_init_25 (Nat.le_of_ble_eq_true rfl) (Nat.le_of_ble_eq_true rfl) ⟨rfl, p, q, hp, hq0, hqp, ?_, ?_, hup_s, fun b e hb he => ?_⟩
  · rw [hup_n hpa.symm, hup_n hpa.symm, hup_n hqp, hup_n hpa.symm, hup_s]
  · rw [hup_n hqa.symm, hup_n hqa.symm, hup_s]
  · rw [hup_n hb, hup_n hb, hup_n (fun z => by subst z; rw [hq0] at he; cases he), hup_n hb, hup_n (fun z => by subst z; rw [hp] at he; cases he), he]
