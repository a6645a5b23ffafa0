theorem tw_16 : (Jvm.Cond.classLink "CorpuslineLaw" (8 : Nat) "Corpusline") ∈ TB := tb_of 16 (by decide +kernel) rfl
theorem tw_17 : (Jvm.Cond.instantiable "Corpusline" (9 : Nat)) ∈ TB := tb_of 17 (by decide +kernel) rfl
theorem tw_18 : (Jvm.Cond.methodLink "CorpuslineLaw" (98 : Nat) ({ cls := "Corpusline", name := "<init>", desc := "()V" } : Jvm.MethodName)) ∈ TB := tb_of 18 (by decide +kernel) rfl
theorem tw_19 : (Jvm.Cond.instanceMethod ({ cls := "Corpusline", name := "<init>", desc := "()V" } : Jvm.MethodName)) ∈ TB := tb_of 19 (by decide +kernel) rfl
theorem tw_20 : (Jvm.Cond.code ({ cls := "Corpusline", name := "<init>", desc := "()V" } : Jvm.MethodName) prog_1_method_1_code (2 : Nat) (Option.none : Option Jvm.ClassFile.FieldType)) ∈ TB := tb_of 20 (by decide +kernel) rfl
theorem tw_655 : (Jvm.Cond.classLink "CorpuslineLaw" (99 : Nat) "CorpuslineModel") ∈ TB := tb_of 655 (by decide +kernel) rfl
theorem tw_656 : (Jvm.Cond.instantiable "CorpuslineModel" (23 : Nat)) ∈ TB := tb_of 656 (by decide +kernel) rfl
theorem tw_657 : (Jvm.Cond.methodLink "CorpuslineLaw" (101 : Nat) ({ cls := "CorpuslineModel", name := "<init>", desc := "()V" } : Jvm.MethodName)) ∈ TB := tb_of 657 (by decide +kernel) rfl
theorem tw_658 : (Jvm.Cond.instanceMethod ({ cls := "CorpuslineModel", name := "<init>", desc := "()V" } : Jvm.MethodName)) ∈ TB := tb_of 658 (by decide +kernel) rfl
theorem tw_659 : (Jvm.Cond.code ({ cls := "CorpuslineModel", name := "<init>", desc := "()V" } : Jvm.MethodName) prog_9_method_1_code (2 : Nat) (Option.none : Option Jvm.ClassFile.FieldType)) ∈ TB := tb_of 659 (by decide +kernel) rfl
theorem ok_RL_98 : okI RL 98 yX6_init cX6_init 2 0 := ⟨tw_18, tw_19, rfl, tw_1, tw_20, ⟨by decide, by decide, by decide +kernel⟩⟩
theorem ok_RL_101 : okI RL 101 yX7_init cX7_init 2 0 := ⟨tw_657, tw_658, rfl, tw_5, tw_659, ⟨by decide, by decide, by decide +kernel⟩⟩
theorem nw_RL_8 : nwOk RL 8 5 [.null, .int (nI 0), .null, .int (nI 0), .null, .int (nI 0), .null, .null, .null] 9 := ⟨_, _, tyX6, rfl, cw_5, tyX6_ok, tw_16, tw_17, tw_1, by decide +kernel⟩
theorem nw_RL_99 : nwOk RL 99 6 [.int (nI 0), .null, .null, .null, .null, .null, .null, .null, .null, .null, .null, .null, .null, .null, .null, .int (nI 0), .int (nI 0), .null, .null, .null, .null, .null, .null] 23 := ⟨_, _, tyX7, rfl, cw_6, tyX7_ok, tw_655, tw_656, tw_5, by decide +kernel⟩
set_option maxHeartbeats 4000000 in
set_option maxRecDepth 100000 in
theorem m_new2 (l : Launch) (G : eG) (a : Nat) (h : hp) (ha : h a = some (oC 6 (mfsI (fun _ => a) 1))) : MC l G yX7_init cX7_init 2 none { frames := 1, cells := 20, slots := 8655, locals := 40 } [.ref a] h (fun v h1 => v = none ∧ ∃ q, q 0 = a ∧ mo G q z0 h1 ∧ (∀ b e, b ≠ a → h b = some e → h1 b = some e) ∧ ∀ j, j < 23 → mkind j ≠ 0 → ∀ b e, b ≠ a → h b = some e → b ≠ q j) := by
  refine MC.of (by decide) (Nat.le_of_ble_eq_true rfl) ?_
  intro x C A TY CI
  replace CI := CI rfl
  show VV G x 0 0 h 0 [(0, .ref a)] []
  refine r_aload_n C d_X7_init_0 0 rfl ?_
  refine r_obj C d_X7_init_1 tw_660 tw_22 tw_23 (by decide) (by decide) ?_
  have M1 : mi G a h 1 (fun _ => a) h := ⟨rfl, ha, fun j hj hj0 => absurd (show mkind j = 0 by rw [show j = 0 by omega]; rfl) hj0, fun i j hi hj _ _ _ => by omega, fun b e _ z => z⟩
  have N1 : ∀ j, j < 1 → mkind j ≠ 0 → ∀ b e, b ≠ a → h b = some e → b ≠ (fun _ : Nat => a) j := fun j _ _ b e hb _ => hb
  revert M1 N1
  generalize (fun _ : Nat => a) = q1
  intro M1 N1
  refine r_aload_n C d_X7_init_4 0 rfl ?_
  refine r_iconst C d_X7_init_5 (v := nI 2) rfl ?_
  refine r_newI C d_X7_init_6 tw_46 (by decide) (Nat.le_of_ble_eq_true rfl) (Nat.le_of_ble_eq_true rfl) (fun b1 hb1 _ => ?_)
  have ha1 : hup h b1 (mcell G mz 1) a = some (oC 6 (mfsI q1 1)) := by rw [hup_n (fun z => by have := M1.2.1; rw [z, hb1] at this; cases this), M1.2.1]
  refine r_putF C CI d_X7_init_8 pf_RX7_7 (fun q9 e9 => by cases e9; rfl) ha1 rfl rfl (Nat.le_of_ble_eq_true rfl) (fs' := mfsI (qs q1 1 b1) 2) rfl ?_
  refine r_eqh (h' := hup (hup h b1 (mcell G mz 1)) a (oC 6 (mfsI (qs q1 1 b1) 2))) rfl ?_
  replace N1 := ni_step (q := q1) N1 (by decide) M1.2.2.2.2 hb1
  replace M1 := mi_step M1 (by decide) (by decide) hb1 rfl rfl (e := mcell G mz 1) (fs := mfsI (qs q1 1 b1) 2)
  clear ha1
  revert M1 N1
  generalize hup (hup h b1 (mcell G mz 1)) a (oC 6 (mfsI (qs q1 1 b1) 2)) = h1
  generalize qs q1 1 b1 = q2
  intro N1 M1
  clear hb1
  refine r_aload_n C d_X7_init_11 0 rfl ?_
  refine r_sipush C d_X7_init_12 (v := nI 240) rfl ?_
  refine r_newI C d_X7_init_15 tw_46 (by decide) (Nat.le_of_ble_eq_true rfl) (Nat.le_of_ble_eq_true rfl) (fun b2 hb2 _ => ?_)
  have ha2 : hup h1 b2 (mcell G mz 2) a = some (oC 6 (mfsI q2 2)) := by rw [hup_n (fun z => by have := M1.2.1; rw [z, hb2] at this; cases this), M1.2.1]
  refine r_putF C CI d_X7_init_17 pf_RX7_13 (fun q9 e9 => by cases e9; rfl) ha2 rfl rfl (Nat.le_of_ble_eq_true rfl) (fs' := mfsI (qs q2 2 b2) 3) rfl ?_
  refine r_eqh (h' := hup (hup h1 b2 (mcell G mz 2)) a (oC 6 (mfsI (qs q2 2 b2) 3))) rfl ?_
  replace N1 := ni_step (q := q2) N1 (by decide) M1.2.2.2.2 hb2
  replace M1 := mi_step M1 (by decide) (by decide) hb2 rfl rfl (e := mcell G mz 2) (fs := mfsI (qs q2 2 b2) 3)
  clear ha2
  revert M1 N1
  generalize hup (hup h1 b2 (mcell G mz 2)) a (oC 6 (mfsI (qs q2 2 b2) 3)) = h2
  generalize qs q2 2 b2 = q3
  intro N1 M1
  clear hb2
  refine r_aload_n C d_X7_init_20 0 rfl ?_
  refine r_bipush C d_X7_init_21 (v := nI 80) rfl ?_
  refine r_newI C d_X7_init_23 tw_46 (by decide) (Nat.le_of_ble_eq_true rfl) (Nat.le_of_ble_eq_true rfl) (fun b3 hb3 _ => ?_)
  have ha3 : hup h2 b3 (mcell G mz 3) a = some (oC 6 (mfsI q3 3)) := by rw [hup_n (fun z => by have := M1.2.1; rw [z, hb3] at this; cases this), M1.2.1]
  refine r_putF C CI d_X7_init_25 pf_RX7_16 (fun q9 e9 => by cases e9; rfl) ha3 rfl rfl (Nat.le_of_ble_eq_true rfl) (fs' := mfsI (qs q3 3 b3) 4) rfl ?_
  refine r_eqh (h' := hup (hup h2 b3 (mcell G mz 3)) a (oC 6 (mfsI (qs q3 3 b3) 4))) rfl ?_
  replace N1 := ni_step (q := q3) N1 (by decide) M1.2.2.2.2 hb3
  replace M1 := mi_step M1 (by decide) (by decide) hb3 rfl rfl (e := mcell G mz 3) (fs := mfsI (qs q3 3 b3) 4)
  clear ha3
  revert M1 N1
  generalize hup (hup h2 b3 (mcell G mz 3)) a (oC 6 (mfsI (qs q3 3 b3) 4)) = h3
  generalize qs q3 3 b3 = q4
  intro N1 M1
  clear hb3
  refine r_aload_n C d_X7_init_28 0 rfl ?_
  refine r_bipush C d_X7_init_29 (v := nI 80) rfl ?_
  refine r_newI C d_X7_init_31 tw_46 (by decide) (Nat.le_of_ble_eq_true rfl) (Nat.le_of_ble_eq_true rfl) (fun b4 hb4 _ => ?_)
  have ha4 : hup h3 b4 (mcell G mz 4) a = some (oC 6 (mfsI q4 4)) := by rw [hup_n (fun z => by have := M1.2.1; rw [z, hb4] at this; cases this), M1.2.1]
  refine r_putF C CI d_X7_init_33 pf_RX7_19 (fun q9 e9 => by cases e9; rfl) ha4 rfl rfl (Nat.le_of_ble_eq_true rfl) (fs' := mfsI (qs q4 4 b4) 5) rfl ?_
  refine r_eqh (h' := hup (hup h3 b4 (mcell G mz 4)) a (oC 6 (mfsI (qs q4 4 b4) 5))) rfl ?_
  replace N1 := ni_step (q := q4) N1 (by decide) M1.2.2.2.2 hb4
  replace M1 := mi_step M1 (by decide) (by decide) hb4 rfl rfl (e := mcell G mz 4) (fs := mfsI (qs q4 4 b4) 5)
  clear ha4
  revert M1 N1
  generalize hup (hup h3 b4 (mcell G mz 4)) a (oC 6 (mfsI (qs q4 4 b4) 5)) = h4
  generalize qs q4 4 b4 = q5
  intro N1 M1
  clear hb4
  refine r_aload_n C d_X7_init_36 0 rfl ?_
  refine r_iconst C d_X7_init_37 (v := nI 2) rfl ?_
  refine r_newZ C d_X7_init_38 tw_731 (by decide) (Nat.le_of_ble_eq_true rfl) (Nat.le_of_ble_eq_true rfl) (fun b5 hb5 _ => ?_)
  have ha5 : hup h4 b5 (mcell G mz 5) a = some (oC 6 (mfsI q5 5)) := by rw [hup_n (fun z => by have := M1.2.1; rw [z, hb5] at this; cases this), M1.2.1]
  refine r_putF C CI d_X7_init_40 pf_RX7_22 (fun q9 e9 => by cases e9; rfl) ha5 rfl rfl (Nat.le_of_ble_eq_true rfl) (fs' := mfsI (qs q5 5 b5) 6) rfl ?_
  refine r_eqh (h' := hup (hup h4 b5 (mcell G mz 5)) a (oC 6 (mfsI (qs q5 5 b5) 6))) rfl ?_
  replace N1 := ni_step (q := q5) N1 (by decide) M1.2.2.2.2 hb5
  replace M1 := mi_step M1 (by decide) (by decide) hb5 rfl rfl (e := mcell G mz 5) (fs := mfsI (qs q5 5 b5) 6)
  clear ha5
  revert M1 N1
  generalize hup (hup h4 b5 (mcell G mz 5)) a (oC 6 (mfsI (qs q5 5 b5) 6)) = h5
  generalize qs q5 5 b5 = q6
  intro N1 M1
  clear hb5
  refine r_aload_n C d_X7_init_43 0 rfl ?_
  refine r_iconst C d_X7_init_44 (v := nI 2) rfl ?_
  refine r_newZ C d_X7_init_45 tw_731 (by decide) (Nat.le_of_ble_eq_true rfl) (Nat.le_of_ble_eq_true rfl) (fun b6 hb6 _ => ?_)
  have ha6 : hup h5 b6 (mcell G mz 6) a = some (oC 6 (mfsI q6 6)) := by rw [hup_n (fun z => by have := M1.2.1; rw [z, hb6] at this; cases this), M1.2.1]
  refine r_putF C CI d_X7_init_47 pf_RX7_26 (fun q9 e9 => by cases e9; rfl) ha6 rfl rfl (Nat.le_of_ble_eq_true rfl) (fs' := mfsI (qs q6 6 b6) 7) rfl ?_
  refine r_eqh (h' := hup (hup h5 b6 (mcell G mz 6)) a (oC 6 (mfsI (qs q6 6 b6) 7))) rfl ?_
  replace N1 := ni_step (q := q6) N1 (by decide) M1.2.2.2.2 hb6
  replace M1 := mi_step M1 (by decide) (by decide) hb6 rfl rfl (e := mcell G mz 6) (fs := mfsI (qs q6 6 b6) 7)
  clear ha6
  revert M1 N1
  generalize hup (hup h5 b6 (mcell G mz 6)) a (oC 6 (mfsI (qs q6 6 b6) 7)) = h6
  generalize qs q6 6 b6 = q7
  intro N1 M1
  clear hb6
  refine r_aload_n C d_X7_init_50 0 rfl ?_
  refine r_bipush C d_X7_init_51 (v := nI 40) rfl ?_
  refine r_newJ C d_X7_init_53 tw_79 (by decide) (Nat.le_of_ble_eq_true rfl) (Nat.le_of_ble_eq_true rfl) (fun b7 hb7 _ => ?_)
  have ha7 : hup h6 b7 (mcell G mz 7) a = some (oC 6 (mfsI q7 7)) := by rw [hup_n (fun z => by have := M1.2.1; rw [z, hb7] at this; cases this), M1.2.1]
  refine r_putF C CI d_X7_init_55 pf_RX7_29 (fun q9 e9 => by cases e9; rfl) ha7 rfl rfl (Nat.le_of_ble_eq_true rfl) (fs' := mfsI (qs q7 7 b7) 8) rfl ?_
  refine r_eqh (h' := hup (hup h6 b7 (mcell G mz 7)) a (oC 6 (mfsI (qs q7 7 b7) 8))) rfl ?_
  replace N1 := ni_step (q := q7) N1 (by decide) M1.2.2.2.2 hb7
  replace M1 := mi_step M1 (by decide) (by decide) hb7 rfl rfl (e := mcell G mz 7) (fs := mfsI (qs q7 7 b7) 8)
  clear ha7
  revert M1 N1
  generalize hup (hup h6 b7 (mcell G mz 7)) a (oC 6 (mfsI (qs q7 7 b7) 8)) = h7
  generalize qs q7 7 b7 = q8
  intro N1 M1
  clear hb7
  refine r_aload_n C d_X7_init_58 0 rfl ?_
  refine r_bipush C d_X7_init_59 (v := nI 21) rfl ?_
  refine r_newI C d_X7_init_61 tw_46 (by decide) (Nat.le_of_ble_eq_true rfl) (Nat.le_of_ble_eq_true rfl) (fun b8 hb8 _ => ?_)
  have ha8 : hup h7 b8 (mcell G mz 8) a = some (oC 6 (mfsI q8 8)) := by rw [hup_n (fun z => by have := M1.2.1; rw [z, hb8] at this; cases this), M1.2.1]
  refine r_putF C CI d_X7_init_63 pf_RX7_33 (fun q9 e9 => by cases e9; rfl) ha8 rfl rfl (Nat.le_of_ble_eq_true rfl) (fs' := mfsI (qs q8 8 b8) 9) rfl ?_
  refine r_eqh (h' := hup (hup h7 b8 (mcell G mz 8)) a (oC 6 (mfsI (qs q8 8 b8) 9))) rfl ?_
  replace N1 := ni_step (q := q8) N1 (by decide) M1.2.2.2.2 hb8
  replace M1 := mi_step M1 (by decide) (by decide) hb8 rfl rfl (e := mcell G mz 8) (fs := mfsI (qs q8 8 b8) 9)
  clear ha8
  revert M1 N1
  generalize hup (hup h7 b8 (mcell G mz 8)) a (oC 6 (mfsI (qs q8 8 b8) 9)) = h8
  generalize qs q8 8 b8 = q9
  intro N1 M1
  clear hb8
  refine r_aload_n C d_X7_init_66 0 rfl ?_
  refine r_bipush C d_X7_init_67 (v := nI 21) rfl ?_
  refine r_newZ C d_X7_init_69 tw_731 (by decide) (Nat.le_of_ble_eq_true rfl) (Nat.le_of_ble_eq_true rfl) (fun b9 hb9 _ => ?_)
  have ha9 : hup h8 b9 (mcell G mz 9) a = some (oC 6 (mfsI q9 9)) := by rw [hup_n (fun z => by have := M1.2.1; rw [z, hb9] at this; cases this), M1.2.1]
  refine r_putF C CI d_X7_init_71 pf_RX7_36 (fun q9 e9 => by cases e9; rfl) ha9 rfl rfl (Nat.le_of_ble_eq_true rfl) (fs' := mfsI (qs q9 9 b9) 10) rfl ?_
  refine r_eqh (h' := hup (hup h8 b9 (mcell G mz 9)) a (oC 6 (mfsI (qs q9 9 b9) 10))) rfl ?_
  replace N1 := ni_step (q := q9) N1 (by decide) M1.2.2.2.2 hb9
  replace M1 := mi_step M1 (by decide) (by decide) hb9 rfl rfl (e := mcell G mz 9) (fs := mfsI (qs q9 9 b9) 10)
  clear ha9
  revert M1 N1
  generalize hup (hup h8 b9 (mcell G mz 9)) a (oC 6 (mfsI (qs q9 9 b9) 10)) = h9
  generalize qs q9 9 b9 = q10
  intro N1 M1
  clear hb9
  refine r_aload_n C d_X7_init_74 0 rfl ?_
  refine r_sipush C d_X7_init_75 (v := nI 5376) rfl ?_
  refine r_newZ C d_X7_init_78 tw_731 (by decide) (Nat.le_of_ble_eq_true rfl) (Nat.le_of_ble_eq_true rfl) (fun b10 hb10 _ => ?_)
  have ha10 : hup h9 b10 (mcell G mz 10) a = some (oC 6 (mfsI q10 10)) := by rw [hup_n (fun z => by have := M1.2.1; rw [z, hb10] at this; cases this), M1.2.1]
  refine r_putF C CI d_X7_init_80 pf_RX7_39 (fun q9 e9 => by cases e9; rfl) ha10 rfl rfl (Nat.le_of_ble_eq_true rfl) (fs' := mfsI (qs q10 10 b10) 11) rfl ?_
  refine r_eqh (h' := hup (hup h9 b10 (mcell G mz 10)) a (oC 6 (mfsI (qs q10 10 b10) 11))) rfl ?_
  replace N1 := ni_step (q := q10) N1 (by decide) M1.2.2.2.2 hb10
  replace M1 := mi_step M1 (by decide) (by decide) hb10 rfl rfl (e := mcell G mz 10) (fs := mfsI (qs q10 10 b10) 11)
  clear ha10
  revert M1 N1
  generalize hup (hup h9 b10 (mcell G mz 10)) a (oC 6 (mfsI (qs q10 10 b10) 11)) = h10
  generalize qs q10 10 b10 = q11
  intro N1 M1
  clear hb10
  refine r_aload_n C d_X7_init_83 0 rfl ?_
  refine r_sipush C d_X7_init_84 (v := nI 504) rfl ?_
  refine r_newI C d_X7_init_87 tw_46 (by decide) (Nat.le_of_ble_eq_true rfl) (Nat.le_of_ble_eq_true rfl) (fun b11 hb11 _ => ?_)
  have ha11 : hup h10 b11 (mcell G mz 11) a = some (oC 6 (mfsI q11 11)) := by rw [hup_n (fun z => by have := M1.2.1; rw [z, hb11] at this; cases this), M1.2.1]
  refine r_putF C CI d_X7_init_89 pf_RX7_42 (fun q9 e9 => by cases e9; rfl) ha11 rfl rfl (Nat.le_of_ble_eq_true rfl) (fs' := mfsI (qs q11 11 b11) 12) rfl ?_
  refine r_eqh (h' := hup (hup h10 b11 (mcell G mz 11)) a (oC 6 (mfsI (qs q11 11 b11) 12))) rfl ?_
  replace N1 := ni_step (q := q11) N1 (by decide) M1.2.2.2.2 hb11
  replace M1 := mi_step M1 (by decide) (by decide) hb11 rfl rfl (e := mcell G mz 11) (fs := mfsI (qs q11 11 b11) 12)
  clear ha11
  revert M1 N1
  generalize hup (hup h10 b11 (mcell G mz 11)) a (oC 6 (mfsI (qs q11 11 b11) 12)) = h11
  generalize qs q11 11 b11 = q12
  intro N1 M1
  clear hb11
  refine r_aload_n C d_X7_init_92 0 rfl ?_
  refine r_sipush C d_X7_init_93 (v := nI 1008) rfl ?_
  refine r_newJ C d_X7_init_96 tw_79 (by decide) (Nat.le_of_ble_eq_true rfl) (Nat.le_of_ble_eq_true rfl) (fun b12 hb12 _ => ?_)
  have ha12 : hup h11 b12 (mcell G mz 12) a = some (oC 6 (mfsI q12 12)) := by rw [hup_n (fun z => by have := M1.2.1; rw [z, hb12] at this; cases this), M1.2.1]
  refine r_putF C CI d_X7_init_98 pf_RX7_45 (fun q9 e9 => by cases e9; rfl) ha12 rfl rfl (Nat.le_of_ble_eq_true rfl) (fs' := mfsI (qs q12 12 b12) 13) rfl ?_
  refine r_eqh (h' := hup (hup h11 b12 (mcell G mz 12)) a (oC 6 (mfsI (qs q12 12 b12) 13))) rfl ?_
  replace N1 := ni_step (q := q12) N1 (by decide) M1.2.2.2.2 hb12
  replace M1 := mi_step M1 (by decide) (by decide) hb12 rfl rfl (e := mcell G mz 12) (fs := mfsI (qs q12 12 b12) 13)
  clear ha12
  revert M1 N1
  generalize hup (hup h11 b12 (mcell G mz 12)) a (oC 6 (mfsI (qs q12 12 b12) 13)) = h12
  generalize qs q12 12 b12 = q13
  intro N1 M1
  clear hb12
  refine r_aload_n C d_X7_init_101 0 rfl ?_
  refine r_sipush C d_X7_init_102 (v := nI 168) rfl ?_
  refine r_newI C d_X7_init_105 tw_46 (by decide) (Nat.le_of_ble_eq_true rfl) (Nat.le_of_ble_eq_true rfl) (fun b13 hb13 _ => ?_)
  have ha13 : hup h12 b13 (mcell G mz 13) a = some (oC 6 (mfsI q13 13)) := by rw [hup_n (fun z => by have := M1.2.1; rw [z, hb13] at this; cases this), M1.2.1]
  refine r_putF C CI d_X7_init_107 pf_RX7_48 (fun q9 e9 => by cases e9; rfl) ha13 rfl rfl (Nat.le_of_ble_eq_true rfl) (fs' := mfsI (qs q13 13 b13) 14) rfl ?_
  refine r_eqh (h' := hup (hup h12 b13 (mcell G mz 13)) a (oC 6 (mfsI (qs q13 13 b13) 14))) rfl ?_
  replace N1 := ni_step (q := q13) N1 (by decide) M1.2.2.2.2 hb13
  replace M1 := mi_step M1 (by decide) (by decide) hb13 rfl rfl (e := mcell G mz 13) (fs := mfsI (qs q13 13 b13) 14)
  clear ha13
  revert M1 N1
  generalize hup (hup h12 b13 (mcell G mz 13)) a (oC 6 (mfsI (qs q13 13 b13) 14)) = h13
  generalize qs q13 13 b13 = q14
  intro N1 M1
  clear hb13
  refine r_aload_n C d_X7_init_110 0 rfl ?_
  refine r_sipush C d_X7_init_111 (v := nI 168) rfl ?_
  refine r_newI C d_X7_init_114 tw_46 (by decide) (Nat.le_of_ble_eq_true rfl) (Nat.le_of_ble_eq_true rfl) (fun b14 hb14 _ => ?_)
  have ha14 : hup h13 b14 (mcell G mz 14) a = some (oC 6 (mfsI q14 14)) := by rw [hup_n (fun z => by have := M1.2.1; rw [z, hb14] at this; cases this), M1.2.1]
  refine r_putF C CI d_X7_init_116 pf_RX7_51 (fun q9 e9 => by cases e9; rfl) ha14 rfl rfl (Nat.le_of_ble_eq_true rfl) (fs' := mfsI (qs q14 14 b14) 15) rfl ?_
  refine r_eqh (h' := hup (hup h13 b14 (mcell G mz 14)) a (oC 6 (mfsI (qs q14 14 b14) 15))) rfl ?_
  replace N1 := ni_step (q := q14) N1 (by decide) M1.2.2.2.2 hb14
  replace M1 := mi_step M1 (by decide) (by decide) hb14 rfl rfl (e := mcell G mz 14) (fs := mfsI (qs q14 14 b14) 15)
  clear ha14
  revert M1 N1
  generalize hup (hup h13 b14 (mcell G mz 14)) a (oC 6 (mfsI (qs q14 14 b14) 15)) = h14
  generalize qs q14 14 b14 = q15
  intro N1 M1
  clear hb14
  refine r_aload_n C d_X7_init_119 0 rfl ?_
  refine r_sipush C d_X7_init_120 (v := nI 256) rfl ?_
  replace M1 := mi_skip M1 (by decide) rfl rfl
  replace N1 := ni_skip N1 rfl
  replace M1 := mi_skip M1 (by decide) rfl rfl
  replace N1 := ni_skip N1 rfl
  refine r_newZ C d_X7_init_123 tw_731 (by decide) (Nat.le_of_ble_eq_true rfl) (Nat.le_of_ble_eq_true rfl) (fun b17 hb17 _ => ?_)
  have ha17 : hup h14 b17 (mcell G mz 17) a = some (oC 6 (mfsI q15 17)) := by rw [hup_n (fun z => by have := M1.2.1; rw [z, hb17] at this; cases this), M1.2.1]
  refine r_putF C CI d_X7_init_125 pf_RX7_54 (fun q9 e9 => by cases e9; rfl) ha17 rfl rfl (Nat.le_of_ble_eq_true rfl) (fs' := mfsI (qs q15 17 b17) 18) rfl ?_
  refine r_eqh (h' := hup (hup h14 b17 (mcell G mz 17)) a (oC 6 (mfsI (qs q15 17 b17) 18))) rfl ?_
  replace N1 := ni_step (q := q15) N1 (by decide) M1.2.2.2.2 hb17
  replace M1 := mi_step M1 (by decide) (by decide) hb17 rfl rfl (e := mcell G mz 17) (fs := mfsI (qs q15 17 b17) 18)
  clear ha17
  revert M1 N1
  generalize hup (hup h14 b17 (mcell G mz 17)) a (oC 6 (mfsI (qs q15 17 b17) 18)) = h17
  generalize qs q15 17 b17 = q18
  intro N1 M1
  clear hb17
  refine r_aload_n C d_X7_init_128 0 rfl ?_
  refine r_sipush C d_X7_init_129 (v := nI 256) rfl ?_
  refine r_newZ C d_X7_init_132 tw_731 (by decide) (Nat.le_of_ble_eq_true rfl) (Nat.le_of_ble_eq_true rfl) (fun b18 hb18 _ => ?_)
  have ha18 : hup h17 b18 (mcell G mz 18) a = some (oC 6 (mfsI q18 18)) := by rw [hup_n (fun z => by have := M1.2.1; rw [z, hb18] at this; cases this), M1.2.1]
  refine r_putF C CI d_X7_init_134 pf_RX7_57 (fun q9 e9 => by cases e9; rfl) ha18 rfl rfl (Nat.le_of_ble_eq_true rfl) (fs' := mfsI (qs q18 18 b18) 19) rfl ?_
  refine r_eqh (h' := hup (hup h17 b18 (mcell G mz 18)) a (oC 6 (mfsI (qs q18 18 b18) 19))) rfl ?_
  replace N1 := ni_step (q := q18) N1 (by decide) M1.2.2.2.2 hb18
  replace M1 := mi_step M1 (by decide) (by decide) hb18 rfl rfl (e := mcell G mz 18) (fs := mfsI (qs q18 18 b18) 19)
  clear ha18
  revert M1 N1
  generalize hup (hup h17 b18 (mcell G mz 18)) a (oC 6 (mfsI (qs q18 18 b18) 19)) = h18
  generalize qs q18 18 b18 = q19
  intro N1 M1
  clear hb18
  refine r_aload_n C d_X7_init_137 0 rfl ?_
  refine r_iconst C d_X7_init_138 (v := nI 3) rfl ?_
  refine r_newI C d_X7_init_139 tw_46 (by decide) (Nat.le_of_ble_eq_true rfl) (Nat.le_of_ble_eq_true rfl) (fun b19 hb19 _ => ?_)
  have ha19 : hup h18 b19 (mcell G mz 19) a = some (oC 6 (mfsI q19 19)) := by rw [hup_n (fun z => by have := M1.2.1; rw [z, hb19] at this; cases this), M1.2.1]
  refine r_putF C CI d_X7_init_141 pf_RX7_60 (fun q9 e9 => by cases e9; rfl) ha19 rfl rfl (Nat.le_of_ble_eq_true rfl) (fs' := mfsI (qs q19 19 b19) 20) rfl ?_
  refine r_eqh (h' := hup (hup h18 b19 (mcell G mz 19)) a (oC 6 (mfsI (qs q19 19 b19) 20))) rfl ?_
  replace N1 := ni_step (q := q19) N1 (by decide) M1.2.2.2.2 hb19
  replace M1 := mi_step M1 (by decide) (by decide) hb19 rfl rfl (e := mcell G mz 19) (fs := mfsI (qs q19 19 b19) 20)
  clear ha19
  revert M1 N1
  generalize hup (hup h18 b19 (mcell G mz 19)) a (oC 6 (mfsI (qs q19 19 b19) 20)) = h19
  generalize qs q19 19 b19 = q20
  intro N1 M1
  clear hb19
  refine r_aload_n C d_X7_init_144 0 rfl ?_
  refine r_bipush C d_X7_init_145 (v := nI 8) rfl ?_
  refine r_newI C d_X7_init_147 tw_46 (by decide) (Nat.le_of_ble_eq_true rfl) (Nat.le_of_ble_eq_true rfl) (fun b20 hb20 _ => ?_)
  have ha20 : hup h19 b20 (mcell G mz 20) a = some (oC 6 (mfsI q20 20)) := by rw [hup_n (fun z => by have := M1.2.1; rw [z, hb20] at this; cases this), M1.2.1]
  refine r_putF C CI d_X7_init_149 pf_RX7_63 (fun q9 e9 => by cases e9; rfl) ha20 rfl rfl (Nat.le_of_ble_eq_true rfl) (fs' := mfsI (qs q20 20 b20) 21) rfl ?_
  refine r_eqh (h' := hup (hup h19 b20 (mcell G mz 20)) a (oC 6 (mfsI (qs q20 20 b20) 21))) rfl ?_
  replace N1 := ni_step (q := q20) N1 (by decide) M1.2.2.2.2 hb20
  replace M1 := mi_step M1 (by decide) (by decide) hb20 rfl rfl (e := mcell G mz 20) (fs := mfsI (qs q20 20 b20) 21)
  clear ha20
  revert M1 N1
  generalize hup (hup h19 b20 (mcell G mz 20)) a (oC 6 (mfsI (qs q20 20 b20) 21)) = h20
  generalize qs q20 20 b20 = q21
  intro N1 M1
  clear hb20
  refine r_aload_n C d_X7_init_152 0 rfl ?_
  refine r_sipush C d_X7_init_153 (v := nI 320) rfl ?_
  refine r_newI C d_X7_init_156 tw_46 (by decide) (Nat.le_of_ble_eq_true rfl) (Nat.le_of_ble_eq_true rfl) (fun b21 hb21 _ => ?_)
  have ha21 : hup h20 b21 (mcell G mz 21) a = some (oC 6 (mfsI q21 21)) := by rw [hup_n (fun z => by have := M1.2.1; rw [z, hb21] at this; cases this), M1.2.1]
  refine r_putF C CI d_X7_init_158 pf_RX7_66 (fun q9 e9 => by cases e9; rfl) ha21 rfl rfl (Nat.le_of_ble_eq_true rfl) (fs' := mfsI (qs q21 21 b21) 22) rfl ?_
  refine r_eqh (h' := hup (hup h20 b21 (mcell G mz 21)) a (oC 6 (mfsI (qs q21 21 b21) 22))) rfl ?_
  replace N1 := ni_step (q := q21) N1 (by decide) M1.2.2.2.2 hb21
  replace M1 := mi_step M1 (by decide) (by decide) hb21 rfl rfl (e := mcell G mz 21) (fs := mfsI (qs q21 21 b21) 22)
  clear ha21
  revert M1 N1
  generalize hup (hup h20 b21 (mcell G mz 21)) a (oC 6 (mfsI (qs q21 21 b21) 22)) = h21
  generalize qs q21 21 b21 = q22
  intro N1 M1
  clear hb21
  refine r_aload_n C d_X7_init_161 0 rfl ?_
  refine r_bipush C d_X7_init_162 (v := nI 100) rfl ?_
  refine r_newI C d_X7_init_164 tw_46 (by decide) (Nat.le_of_ble_eq_true rfl) (Nat.le_of_ble_eq_true rfl) (fun b22 hb22 _ => ?_)
  have ha22 : hup h21 b22 (mcell G mz 22) a = some (oC 6 (mfsI q22 22)) := by rw [hup_n (fun z => by have := M1.2.1; rw [z, hb22] at this; cases this), M1.2.1]
  refine r_putF C CI d_X7_init_166 pf_RX7_69 (fun q9 e9 => by cases e9; rfl) ha22 rfl rfl (Nat.le_of_ble_eq_true rfl) (fs' := mfsI (qs q22 22 b22) 23) rfl ?_
  refine r_eqh (h' := hup (hup h21 b22 (mcell G mz 22)) a (oC 6 (mfsI (qs q22 22 b22) 23))) rfl ?_
  replace N1 := ni_step (q := q22) N1 (by decide) M1.2.2.2.2 hb22
  replace M1 := mi_step M1 (by decide) (by decide) hb22 rfl rfl (e := mcell G mz 22) (fs := mfsI (qs q22 22 b22) 23)
  clear ha22
  revert M1 N1
  generalize hup (hup h21 b22 (mcell G mz 22)) a (oC 6 (mfsI (qs q22 22 b22) 23)) = h22
  generalize qs q22 22 b22 = q23
  intro N1 M1
  clear hb22
  have M2 := mi_mo M1
  have M3 := M1.2.2.2.2
  have M4 := M1.1
  refine r_iconst C d_X7_init_169 (v := nI 0) rfl ?_
  refine r_istore_n C d_X7_init_170 (lv' := [(1, .int (nI 0)), (0, .ref a)]) (by decide) rfl ?_
  have hnr : ∀ b e, b ≠ a → h b = some e → b ≠ q23 20 := N1 20 (by decide) (by decide)
  have loop : ∀ (fuel : Nat) (j : Nat) (g : hp), j ≤ 8 → 8 - j < fuel → mo G q23 (zj j) g → (∀ b e, b ≠ a → h b = some e → g b = some e) → VV G x 20 8655 g 171 [(1, .int (nI j)), (0, .ref a)] [] := by
    intro fuel
    induction fuel with
    | zero => intro j g _ f9; exact absurd f9 (Nat.not_lt_zero _)
    | succ fuel ih =>
      intro j g hj f9 Mg Fg
      refine r_iload_n C d_X7_init_171 0 rfl ?_
      refine r_bipush C d_X7_init_172 (v := nI 8) rfl ?_
      refine rn_icmp_ge C d_X7_init_174 (tgt := 190) rfl (by omega) (by omega) (fun c => ?_) (fun c => ?_)
      · refine r_vret C A TY d_X7_init_190 (Nat.le_of_ble_eq_true rfl) (Nat.le_of_ble_eq_true rfl) ⟨rfl, q23, M4, ?_, Fg, N1⟩
        rw [show j = 8 by omega] at Mg; exact Mg
      · refine r_aload_n C d_X7_init_177 1 rfl ?_
        refine r_get C d_X7_init_178 fd_RX7_63 (v := .ref (q23 20)) (by rw [← M4]; exact Mg.1) rfl ?_
        refine r_iload_n C d_X7_init_181 0 rfl ?_
        refine r_iconst C d_X7_init_182 (v := -1) rfl ?_
        refine r_iast (f := fun i => mI (zj j) 20 i) C d_X7_init_183 (by rw [Mg.2.1 20 (by omega) (by decide)]; rfl) (show j < 8 by omega) (by decide) ?_
        rw [show aI G 8 (upd (fun i => mI (zj j) 20 i) j (-1)) = mcell G (uI (zj j) 20 j (-1)) 20 from (mc_I (G := G) (S := zj j) (k := 20) (i := j) (v := -1) rfl).symm]
        refine r_iinc C d_X7_init_184 (v := nI (j + 1)) (lv' := [(1, .int (nI (j + 1))), (0, .ref a)]) 0 rfl (nI_inc _ rfl) (by decide) rfl ?_
        refine r_goto C d_X7_init_187 (tgt := 171) rfl ?_
        refine ih (j + 1) _ (by omega) (by omega) ?_ (fun b e hb he => by rw [hup_n (hnr b e hb he)]; exact Fg b e hb he)
        rw [← zj_step]; exact mo_put Mg (k := 20) (by omega) (by decide) rfl (fun j _ _ e => mc_oI e)
  exact loop _ 0 _ (by omega) (Nat.lt_succ_self _) (by rw [show zj 0 = mz from mS_ext (fun _ => rfl) (fun _ _ => rfl) (fun _ _ => rfl) (fun k i => by unfold zj; rw [mI_sI]; split; rfl; rfl)]; exact M2) M3
theorem and31 (a : Int32) : ∃ n, n < 32 ∧ a &&& nI 31 = nI n := by
  refine ⟨(a &&& nI 31).toUInt32.toNat, ?_, ?_⟩
  · show (a.toUInt32 &&& (nI 31).toUInt32).toNat < 32
    rw [UInt32.toNat_and, show (nI 31).toUInt32.toNat = 2 ^ 5 - 1 from rfl, Nat.and_two_pow_sub_one_eq_mod]
    omega
  · apply Int32.toBitVec_inj.mp
    show (a &&& nI 31).toBitVec = BitVec.ofNat 32 (a &&& nI 31).toBitVec.toNat
    rw [BitVec.ofNat_toNat, BitVec.setWidth_eq]
set_option maxHeartbeats 4000000 in
set_option maxRecDepth 100000 in
theorem law_loop {G : eG} {x : CX} {ad : Nat → Nat → Nat} {q : Nat → Nat} {o b L : Nat} {xs : Nat → Int32} (C : cxOk G RL cL_law room_1 7 x) (B : cxS G b L xs x) (hlf : ∀ l, cxL l x → l.stackTraces = false) (s : lst ad q o) (hL : L ≤ 3072) (E : ∀ n1 n2 h lv, n1 ≤ 601024 → n2 ≤ 7293034 → VV G x n1 n2 h 1928 lv []) : ∀ (fuel i : Nat) (g : mS) (h : hp), L + 1 - i < fuel → i ≤ L → (i = 0 ∨ 6 ≤ i) → lwo G ad q o g h → VV G x (57 + 3 * i) (9799 + 23 * i) h 23 [(4, .int (nI i)), (3, .ref o), (2, .ref (q 0)), (1, .ref (ad 0 0)), (0, .ref b)] [] := by
  intro fuel
  induction fuel with
  | zero => intro i g h f9; exact absurd f9 (Nat.not_lt_zero _)
  | succ fuel ih =>
  intro i g h f9 hi h6 w
  have body : i + 6 ≤ L → VV G x (57 + 3 * i) (9799 + 23 * i) h 33 [(4, .int (nI i)), (3, .ref o), (2, .ref (q 0)), (1, .ref (ad 0 0)), (0, .ref b)] [] := fun c0 => by
    have K : ∀ g h, lwo G ad q o g h → VV G x (57 + 3 * i + 18) (9799 + 23 * i + 138) h 1922 [(4, .int (nI i)), (3, .ref o), (2, .ref (q 0)), (1, .ref (ad 0 0)), (0, .ref b)] [] := fun g h w => by
      refine rn_iinc C d_L_law_1922 (lv' := [(4, .int (nI (i + 6))), (3, .ref o), (2, .ref (q 0)), (1, .ref (ad 0 0)), (0, .ref b)]) 0 rfl (nI_inc _ rfl) (by decide) rfl ?_
      refine r_goto C d_L_law_1925 (tgt := 23) rfl ?_
      have t := ih (i + 6) g h (by omega) (by omega) (Or.inr (by omega)) w
      rw [show 57 + 3 * (i + 6) = 57 + 3 * i + 18 by omega, show 9799 + 23 * (i + 6) = 9799 + 23 * i + 138 by omega] at t
      exact t
    refine r_aload_n C d_L_law_33 4 rfl ?_
    refine r_iload C d_L_law_34 0 rfl ?_
    refine r_sld C B d_L_law_36 (i := i) (by omega) hL ?_
    refine r_bipush C d_L_law_37 (v := nI 31) rfl ?_
    refine r_iand C d_L_law_39 ?_
    obtain ⟨n, hn, en⟩ := and31 (xs i)
    rw [en]
    clear en ih
    rcases Nat.lt_or_ge n 26 with c | c
    · have hh : n = 0 ∨ n = 1 ∨ n = 2 ∨ n = 3 ∨ n = 4 ∨ n = 5 ∨ n = 6 ∨ n = 7 ∨ n = 8 ∨ n = 9 ∨ n = 10 ∨ n = 11 ∨ n = 12 ∨ n = 13 ∨ n = 14 ∨ n = 15 ∨ n = 16 ∨ n = 17 ∨ n = 18 ∨ n = 19 ∨ n = 20 ∨ n = 21 ∨ n = 22 ∨ n = 23 ∨ n = 24 ∨ n = 25 := by omega
      clear hn c
      rcases hh with rfl | rfl | rfl | rfl | rfl | rfl | rfl | rfl | rfl | rfl | rfl | rfl | rfl | rfl | rfl | rfl | rfl | rfl | rfl | rfl | rfl | rfl | rfl | rfl | rfl | rfl
      · exact r_tsIn C d_L_law_40 (by decide) (by decide) (off := 120) (tgt := 160) (by decide) rfl (lo_token C B hlf s w c0 hL (by omega) K)
      · exact r_tsIn C d_L_law_40 (by decide) (by decide) (off := 212) (tgt := 252) (by decide) rfl (lo_end C B hlf s w c0 hL (by omega) K)
      · exact r_tsIn C d_L_law_40 (by decide) (by decide) (off := 296) (tgt := 336) (by decide) rfl (lo_align C B hlf s w c0 hL (by omega) K)
      · exact r_tsIn C d_L_law_40 (by decide) (by decide) (off := 364) (tgt := 404) (by decide) rfl (lo_tokens C B hlf s w c0 hL (by omega) K)
      · exact r_tsIn C d_L_law_40 (by decide) (by decide) (off := 420) (tgt := 460) (by decide) rfl (lo_sentenceOf C B hlf s w c0 hL (by omega) K)
      · exact r_tsIn C d_L_law_40 (by decide) (by decide) (off := 488) (tgt := 528) (by decide) rfl (lo_occurs C B hlf s w c0 hL (by omega) K)
      · exact r_tsIn C d_L_law_40 (by decide) (by decide) (off := 568) (tgt := 608) (by decide) rfl (lo_test C B hlf s w c0 hL (by omega) K)
      · exact r_tsIn C d_L_law_40 (by decide) (by decide) (off := 664) (tgt := 704) (by decide) rfl (lo_any C B hlf s w c0 hL (by omega) K)
      · exact r_tsIn C d_L_law_40 (by decide) (by decide) (off := 708) (tgt := 748) (by decide) rfl (lo_same C B hlf s w c0 hL (by omega) K)
      · exact r_tsIn C d_L_law_40 (by decide) (by decide) (off := 776) (tgt := 816) (by decide) rfl (lo_label C B hlf s w c0 hL (by omega) K)
      · exact r_tsIn C d_L_law_40 (by decide) (by decide) (off := 812) (tgt := 852) (by decide) rfl (lo_both C B hlf s w c0 hL (by omega) K)
      · exact r_tsIn C d_L_law_40 (by decide) (by decide) (off := 856) (tgt := 896) (by decide) rfl (lo_chain C B hlf s w c0 hL (by omega) K)
      · exact r_tsIn C d_L_law_40 (by decide) (by decide) (off := 900) (tgt := 940) (by decide) rfl (lo_either C B hlf s w c0 hL (by omega) K)
      · exact r_tsIn C d_L_law_40 (by decide) (by decide) (off := 944) (tgt := 984) (by decide) rfl (lo_repeat C B hlf s w c0 hL (by omega) K)
      · exact r_tsIn C d_L_law_40 (by decide) (by decide) (off := 1012) (tgt := 1052) (by decide) rfl (lo_keep C B hlf s w c0 hL (by omega) K)
      · exact r_tsIn C d_L_law_40 (by decide) (by decide) (off := 1056) (tgt := 1096) (by decide) rfl (lo_wipe C B hlf s w c0 hL (by omega) K)
      · exact r_tsIn C d_L_law_40 (by decide) (by decide) (off := 1069) (tgt := 1109) (by decide) rfl (lo_run C B hlf s w c0 hL (by omega) K)
      · exact r_tsIn C d_L_law_40 (by decide) (by decide) (off := 1189) (tgt := 1229) (by decide) rfl (lo_walk C B hlf s w c0 hL (by omega) K)
      · exact r_tsIn C d_L_law_40 (by decide) (by decide) (off := 1297) (tgt := 1337) (by decide) rfl (lo_join C B hlf s w c0 hL (by omega) K)
      · exact r_tsIn C d_L_law_40 (by decide) (by decide) (off := 1377) (tgt := 1417) (by decide) rfl (lo_thin C B hlf s w c0 hL (by omega) K)
      · exact r_tsIn C d_L_law_40 (by decide) (by decide) (off := 1433) (tgt := 1473) (by decide) rfl (lo_aligned C B hlf s w c0 hL (by omega) K)
      · exact r_tsIn C d_L_law_40 (by decide) (by decide) (off := 1529) (tgt := 1569) (by decide) rfl (lo_drop C B hlf s w c0 hL (by omega) K)
      · exact r_tsIn C d_L_law_40 (by decide) (by decide) (off := 1585) (tgt := 1625) (by decide) rfl (lo_size C B hlf s w c0 hL (by omega) K)
      · exact r_tsIn C d_L_law_40 (by decide) (by decide) (off := 1610) (tgt := 1650) (by decide) rfl (lo_match C B hlf s w c0 hL (by omega) K)
      · exact r_tsIn C d_L_law_40 (by decide) (by decide) (off := 1678) (tgt := 1718) (by decide) rfl (lo_groups C B hlf s w c0 hL (by omega) K)
      · exact r_tsIn C d_L_law_40 (by decide) (by decide) (off := 1774) (tgt := 1814) (by decide) rfl (lo_groupAt C B hlf s w c0 hL (by omega) K)
    · have hh : n = 26 ∨ n = 27 ∨ n = 28 ∨ n = 29 ∨ n = 30 ∨ n = 31 := by omega
      refine r_tsOut C d_L_law_40 (tgt := 1922) (Or.inr ?_) rfl (r_widen (by omega) (by omega) (K g h w))
      clear hn c K w
      rcases hh with rfl | rfl | rfl | rfl | rfl | rfl <;> decide
  refine r_iload C d_L_law_23 0 rfl ?_
  refine r_aload_n C d_L_law_25 4 rfl ?_
  refine r_slen C B d_L_law_26 ?_
  refine r_bipush C d_L_law_27 (v := nI 6) rfl ?_
  by_cases c6 : 6 ≤ L
  · refine rn_isub C d_L_law_29 c6 ?_
    exact rn_icmp_gt C d_L_law_30 (tgt := 1928) rfl (by omega) (by omega) (fun c => E _ _ _ _ (by omega) (by omega)) (fun c => body (by omega))
  · have h0 : i = 0 := by omega
    subst h0
    refine r_isub C d_L_law_29 ?_
    refine r_icmp_gt C d_L_law_30 (tgt := 1928) rfl (fun c => E _ _ _ _ (by omega) (by omega)) (fun c => absurd ?_ c)
    have hh : L = 0 ∨ L = 1 ∨ L = 2 ∨ L = 3 ∨ L = 4 ∨ L = 5 := by omega
    clear c body B
    rcases hh with rfl | rfl | rfl | rfl | rfl | rfl <;> decide
set_option maxHeartbeats 4000000 in
set_option maxRecDepth 100000 in
theorem law_entry {G : eG} {x : CX} {b L : Nat} {xs : Nat → Int32} (C : cxOk G RL cL_law room_1 7 x) (B : cxS G b L xs x) (hlf : ∀ l, cxL l x → l.stackTraces = false) (hL : L ≤ 3072) (E : ∀ n1 n2 h lv, n1 ≤ 601024 → n2 ≤ 7293034 → VV G x n1 n2 h 1928 lv []) : VV G x 0 0 (fun _ => none) 0 [(0, .ref b)] [] := by
  refine r_new C d_L_law_0 nw_RL_8 (show 0 + 1 ≤ 601024 by omega) (show 0 + 9 ≤ 7293034 by omega) (fun a ha _ => ?_)
  refine r_dup C d_L_law_3 rfl ?_
  refine r_callI C d_L_law_4 ok_RL_98 (fun l _ => l_X6init (a := a) _ (hle.new ha) (nwl_nil.cons cel_nil hle_rf ha) (cel_nil.cons ha)) (As := []) rfl (rest := [.ref a]) rfl (Nat.le_of_ble_eq_true rfl) ⟨⟨by decide, by decide⟩, (show 0 + 1 + 34 ≤ 601024 by omega), (show 0 + 9 + 1111 ≤ 7293034 by omega)⟩ (fun v9 h1 e9 => ?_)
  obtain ⟨L9, ⟨rfl, qq, hqa, rfl⟩, h01, w9, c9⟩ := e9
  have co1 := cn_co w9 c9
  clear w9 c9 h01
  have ha0 : adN qq 0 0 = a := hqa
  show VV G x 35 1120 h1 7 [(0, .ref b)] [.ref a]
  refine r_astore_n C d_L_law_7 (lv' := [(1, .ref a), (0, .ref b)]) (by decide) rfl ?_
  refine r_new C d_L_law_8 nw_RL_99 (show 35 + 1 ≤ 601024 by omega) (show 1120 + 23 ≤ 7293034 by omega) (fun a2 ha2 _ => ?_)
  refine r_dup C d_L_law_11 rfl ?_
  refine r_callI C d_L_law_12 ok_RL_101 (fun l _ => m_new2 l G a2 (hup h1 a2 (oC 6 (mfsI (fun _ => a2) 1))) hup_s) (As := []) rfl (rest := [.ref a2]) rfl (Nat.le_of_ble_eq_true rfl) ⟨⟨by decide, by decide⟩, (show 35 + 1 + 20 ≤ 601024 by omega), (show 1120 + 23 + 8655 ≤ 7293034 by omega)⟩ (fun v9 h3 e9 => ?_)
  obtain ⟨rfl, q0, hq0, mo3, old3, new3⟩ := e9
  show VV G x 56 9798 h3 15 [(1, .ref a), (0, .ref b)] [.ref a2]
  have nz : ∀ y e, h1 y = some e → y ≠ a2 := fun y e hy z => by rw [z, ha2] at hy; cases hy
  have up3 : hle h1 h3 := fun y e hy => old3 y e (nz y e hy) (by rw [hup_n (nz y e hy)]; exact hy)
  have nq : ∀ j, j ≤ 22 → ∀ y e, h1 y = some e → y ≠ qF q0 j := fun j hj y e hy => by
    unfold qF
    split
    · rw [hq0]; exact nz y e hy
    · rename_i z
      exact new3 j (by omega) (fun t => z (Or.inr (Or.inr t))) y e (nz y e hy) (by rw [hup_n (nz y e hy)]; exact hy)
  refine r_astore_n C d_L_law_15 (lv' := [(2, .ref a2), (1, .ref a), (0, .ref b)]) (by decide) rfl ?_
  refine r_iconst C d_L_law_16 (v := nI 1) rfl ?_
  refine r_newJ C d_L_law_17 tw_79 (by decide) (show 56 + 1 ≤ 601024 by omega) (show 9798 + 1 ≤ 7293034 by omega) (fun o ho _ => ?_)
  refine r_astore_n C d_L_law_19 (lv' := [(3, .ref o), (2, .ref a2), (1, .ref a), (0, .ref b)]) (by decide) rfl ?_
  refine r_iconst C d_L_law_20 (v := nI 0) rfl ?_
  refine r_istore C d_L_law_21 (lv' := [(4, .int (nI 0)), (3, .ref o), (2, .ref a2), (1, .ref a), (0, .ref b)]) (by decide) rfl ?_
  have up4 : hle h3 (hup h3 o (aJ G 1 (fun _ => 0))) := hle.new ho
  have no : ∀ y e, h3 y = some e → y ≠ o := fun y e hy z => by rw [z, ho] at hy; cases hy
  have s : lst (adF (qF q0) o (adN qq)) (qF q0) o := by
    refine ⟨fun k i hk z => ?_, fun j hj k i hk z => ?_, fun j hj z => ?_, fun k hk => rfl, rfl, fun k hk h0 => ?_⟩
    · rw [adF_ok (cOk_lt hk)] at z; exact no _ _ (up3 _ _ (co1.1 k i hk)) z.symm
    · rw [adF_ok (cOk_lt hk)] at z; exact nq j hj _ _ (co1.1 k i hk) z.symm
    · obtain ⟨e, he⟩ := mo_qFs mo3 j
      exact no _ _ he z.symm
    · unfold qF
      rw [if_pos (Or.inr (Or.inr h0)), if_pos (Or.inl rfl)]
  have m4 : mo G (qF q0) cz0 (hup h3 o (aJ G 1 (fun _ => 0))) := by
    have m := mo_qF mo3
    have m5 : mo G (qF q0) z0 (hup h3 o (aJ G 1 (fun _ => 0))) := ⟨up4 _ _ m.1, fun k hk h0 => up4 _ _ (m.2.1 k hk h0), m.2.2⟩
    exact mo_mrg m5
  have w : lwo G (adF (qF q0) o (adN qq)) (qF q0) o cz0 (hup h3 o (aJ G 1 (fun _ => 0))) := by
    refine ⟨⟨fun _ => 0, co_adF ((co1.le up3).le up4) (fun i => ?_) ⟨_, hup_s⟩, m4, hup_s⟩, AI_cz, fun _ => (fun _ => 0, 0, 0), fun _ => (0, 0, 0, 0, false, fun _ => 0, fun _ => 0), fun _ => (0, 0, 0, 0, false, fun _ => 0, fun _ => 0), lnk_cz⟩
    obtain ⟨e, he⟩ := mo_qFs mo3 i
    exact ⟨e, up4 _ _ he⟩
  have t := law_loop C B hlf s hL E (L + 2) 0 cz0 _ (by omega) (by omega) (Or.inl rfl) w
  have e1 : qF q0 0 = a2 := hq0
  have e2 : adF (qF q0) o (adN qq) 0 0 = a := ha0
  rw [e1, e2] at t
  exact t
