theorem tw_449 : (Jvm.Cond.methodLink "Corpusline" (162 : Nat) ({ cls := "Corpusline$Part", name := "ofRepeat", desc := "(LCorpusline$Part;II)LCorpusline$Part;" } : Jvm.MethodName)) ∈ TB := tb_of 449 (by decide +kernel) rfl
theorem tw_450 : (Jvm.Cond.static ({ cls := "Corpusline$Part", name := "ofRepeat", desc := "(LCorpusline$Part;II)LCorpusline$Part;" } : Jvm.MethodName)) ∈ TB := tb_of 450 (by decide +kernel) rfl
theorem tw_451 : (Jvm.Cond.code ({ cls := "Corpusline$Part", name := "ofRepeat", desc := "(LCorpusline$Part;II)LCorpusline$Part;" } : Jvm.MethodName) prog_2_method_5_code (5 : Nat) (Option.some (Jvm.ClassFile.FieldType.object "Corpusline$Part"))) ∈ TB := tb_of 451 (by decide +kernel) rfl
theorem pf_RX6_31 : pfOk RX6 31 5 5 .int false := ⟨_, _, _, tyX6, rfl, by decide, cw_5, tw_102, rfl, tyX6_ok, nmX6, rfl, by decide +kernel⟩
theorem ok_RX6_162 : okS RX6 162 yX0_ofRepeat cX0_ofRepeat 5 (Option.some (Jvm.ClassFile.FieldType.object "Corpusline$Part")) 3 := ⟨tw_449, tw_450, tw_13, tw_451, ⟨by decide, by decide, by decide +kernel⟩⟩
theorem cRep_1 {S : mS} {l m : Int32} (h : areR l m = false) : cRep S l m = 1 := by rw [cRep, if_neg (by rw [h]; decide)]
theorem areR_i {l m : Int32} (h : areR l m = true) : (nI 0 ≤ l ∧ l ≤ nI 3) ∧ (nI 1 ≤ m ∧ m ≤ nI 3) ∧ l ≤ m := by
  unfold areR inR at h
  simp only [Bool.and_eq_true, decide_eq_true_eq] at h
  exact h
theorem inI_i {v a b : Int32} (h : inI v a b = true) : a ≤ v ∧ v ≤ b := by
  unfold inI at h
  simp only [Bool.and_eq_true, decide_eq_true_eq] at h
  exact h
theorem areR_F1 {l m : Int32} (h : inI m 1 (nI 3) = false) : areR l m = false := by
  cases e : areR l m with
  | false => rfl
  | true =>
    have e2 := (areR_i e).2.1
    have : inI m 1 (nI 3) = true := by
      unfold inI; rw [decide_eq_true (show (1:Int32) ≤ m from e2.1), decide_eq_true e2.2]; rfl
    rw [h] at this; cases this
theorem areR_F2 {l m : Int32} (_ : inI m 1 (nI 3) = true) (h2 : inI l 0 m = false) : areR l m = false := by
  cases e : areR l m with
  | false => rfl
  | true =>
    have e2 := areR_i e
    have : inI l 0 m = true := by
      unfold inI; rw [decide_eq_true (show (0:Int32) ≤ l from e2.1.1), decide_eq_true e2.2.2]; rfl
    rw [h2] at this; cases this
theorem areR_T {l m : Int32} (h : inI m 1 (nI 3) = true) (h2 : inI l 0 m = true) : areR l m = true := by
  have a := inI_i h
  have b := inI_i h2
  unfold areR inR
  simp only [Bool.and_eq_true, decide_eq_true_eq]
  exact ⟨⟨b.1, Int32.le_trans b.2 a.2⟩, ⟨a.1, a.2⟩, b.2⟩
theorem canR_iff {S : mS} {m : Int32} {M : Nat} (e : m = nI M) (hM : 1 ≤ M) (hM3 : M ≤ 3) (h : 0 < mK S 16) (hn : mN S 8 (12 + mK S 16 - 1) ≤ 8) (ht : mTests S ≤ 8) : canR S m = decide (mTests S + mN S 8 (12 + mK S 16 - 1) * (M - 1) ≤ 8) := by
  unfold canR
  have u : mN S 8 (12 + mK S 16 - 1) * (M - 1) ≤ 8 * 2 := Nat.mul_le_mul hn (by omega)
  rw [decide_eq_true h, e, pk_sub hM, pk_mul, nI_add, Bool.true_and, Nat.mul_comm (M - 1)]
  exact decide_eq_decide.mpr (nI_leI (by omega) (by decide))
theorem rp_la {x : pA} {l : Nat} (h1 : x.2.2.1 < 2 ^ x.1) : ∀ k, (rpA x l k).2.2.1 < 2 ^ (rpA x l k).1
  | 0 => h1
  | k + 1 => by
    have i := rp_la h1 (l := l) k
    show x.2.2.1 * 2 ^ (rpA x l k).1 ||| (if (tmA x (decide (l ≤ k + 1))).2.2.2.2.1 = true then (rpA x l k).2.2.1 else 0) < 2 ^ ((rpA x l k).1 + x.1)
    refine or_lt ?_ ?_
    · rw [Nat.pow_add, Nat.mul_comm]
      exact Nat.mul_lt_mul_of_pos_left h1 (Nat.two_pow_pos _)
    · have h2 : 2 ^ (rpA x l k).1 ≤ 2 ^ ((rpA x l k).1 + x.1) := Nat.pow_le_pow_right (by decide) (by omega)
      have h3 := Nat.two_pow_pos ((rpA x l k).1 + x.1)
      split <;> omega
theorem rp_256 {x : pA} {l M : Nat} (h1 : x.2.2.1 < 2 ^ x.1) (h8 : x.1 * M ≤ 8) : ∀ k, k + 1 < M → (rpA x l k).2.2.1 < 256 := fun k hk => by
  have h2 := rp_la h1 (l := l) k
  have h3 : (rpA x l k).1 ≤ 8 := by
    rw [rpA_n]; exact Nat.le_trans (Nat.mul_le_mul_left _ (by omega)) h8
  exact Nat.lt_of_lt_of_le h2 (Nat.pow_le_pow_right (n := 2) (by decide) h3)
theorem po_1 {g : mS} : mK (poS g 1) 16 = mK g 16 - 1 := rfl
def dl_X6_repeat : List (Nat × Instr × Nat) := [(0, .iload_n 2, 1), (1, .iconst 1, 1), (2, .iconst 3, 1), (3, .invokestatic 57, 3), (6, .iload_n 1, 1), (7, .iconst 0, 1), (8, .iload_n 2, 1), (9, .invokestatic 57, 3), (12, .aload_n 0, 1), (13, .iconst 0, 1), (14, .invokevirtual 141, 3), (17, .astore_n 3, 1), (18, .aload_n 0, 1), (19, .invokevirtual 152, 3), (22, .aload_n 3, 1), (23, .getfield 156, 3), (26, .arraylength, 1), (27, .iload_n 2, 1), (28, .iconst 1, 1), (29, .isub, 1), (30, .imul, 1), (31, .iadd, 1), (32, .istore 4, 2), (34, .iload 4, 2), (36, .bipush 8, 2), (38, .if_icmp .le 13, 3), (41, .new 64, 3), (44, .dup, 1), (45, .ldc 160, 2), (47, .invokespecial 68, 3), (50, .athrow, 1), (51, .aload_n 0, 1), (52, .iconst 1, 1), (53, .invokevirtual 130, 3), (56, .aload_n 0, 1), (57, .aload_n 3, 1), (58, .iload_n 1, 1), (59, .iload_n 2, 1), (60, .invokestatic 162, 3), (63, .invokevirtual 119, 3), (66, .pop, 1), (67, .iload 4, 2), (69, .ireturn, 1)]
theorem dc_X6_repeat : dnL cX6_repeat dl_X6_repeat = true := by decide +kernel
theorem d_X6_repeat_0 : dn cX6_repeat 0 (.iload_n 2) 1 1 := dnAt dc_X6_repeat 0 rfl rfl
theorem d_X6_repeat_1 : dn cX6_repeat 1 (.iconst 1) 1 2 := dnAt dc_X6_repeat 1 rfl rfl
theorem d_X6_repeat_2 : dn cX6_repeat 2 (.iconst 3) 1 3 := dnAt dc_X6_repeat 2 rfl rfl
theorem d_X6_repeat_3 : dn cX6_repeat 3 (.invokestatic 57) 3 6 := dnAt dc_X6_repeat 3 rfl rfl
theorem d_X6_repeat_6 : dn cX6_repeat 6 (.iload_n 1) 1 7 := dnAt dc_X6_repeat 4 rfl rfl
theorem d_X6_repeat_7 : dn cX6_repeat 7 (.iconst 0) 1 8 := dnAt dc_X6_repeat 5 rfl rfl
theorem d_X6_repeat_8 : dn cX6_repeat 8 (.iload_n 2) 1 9 := dnAt dc_X6_repeat 6 rfl rfl
theorem d_X6_repeat_9 : dn cX6_repeat 9 (.invokestatic 57) 3 12 := dnAt dc_X6_repeat 7 rfl rfl
theorem d_X6_repeat_12 : dn cX6_repeat 12 (.aload_n 0) 1 13 := dnAt dc_X6_repeat 8 rfl rfl
theorem d_X6_repeat_13 : dn cX6_repeat 13 (.iconst 0) 1 14 := dnAt dc_X6_repeat 9 rfl rfl
theorem d_X6_repeat_14 : dn cX6_repeat 14 (.invokevirtual 141) 3 17 := dnAt dc_X6_repeat 10 rfl rfl
theorem d_X6_repeat_17 : dn cX6_repeat 17 (.astore_n 3) 1 18 := dnAt dc_X6_repeat 11 rfl rfl
theorem d_X6_repeat_18 : dn cX6_repeat 18 (.aload_n 0) 1 19 := dnAt dc_X6_repeat 12 rfl rfl
theorem d_X6_repeat_19 : dn cX6_repeat 19 (.invokevirtual 152) 3 22 := dnAt dc_X6_repeat 13 rfl rfl
theorem d_X6_repeat_22 : dn cX6_repeat 22 (.aload_n 3) 1 23 := dnAt dc_X6_repeat 14 rfl rfl
theorem d_X6_repeat_23 : dn cX6_repeat 23 (.getfield 156) 3 26 := dnAt dc_X6_repeat 15 rfl rfl
theorem d_X6_repeat_26 : dn cX6_repeat 26 (.arraylength) 1 27 := dnAt dc_X6_repeat 16 rfl rfl
theorem d_X6_repeat_27 : dn cX6_repeat 27 (.iload_n 2) 1 28 := dnAt dc_X6_repeat 17 rfl rfl
theorem d_X6_repeat_28 : dn cX6_repeat 28 (.iconst 1) 1 29 := dnAt dc_X6_repeat 18 rfl rfl
theorem d_X6_repeat_29 : dn cX6_repeat 29 (.isub) 1 30 := dnAt dc_X6_repeat 19 rfl rfl
theorem d_X6_repeat_30 : dn cX6_repeat 30 (.imul) 1 31 := dnAt dc_X6_repeat 20 rfl rfl
theorem d_X6_repeat_31 : dn cX6_repeat 31 (.iadd) 1 32 := dnAt dc_X6_repeat 21 rfl rfl
theorem d_X6_repeat_32 : dn cX6_repeat 32 (.istore 4) 2 34 := dnAt dc_X6_repeat 22 rfl rfl
theorem d_X6_repeat_34 : dn cX6_repeat 34 (.iload 4) 2 36 := dnAt dc_X6_repeat 23 rfl rfl
theorem d_X6_repeat_36 : dn cX6_repeat 36 (.bipush 8) 2 38 := dnAt dc_X6_repeat 24 rfl rfl
theorem d_X6_repeat_38 : dn cX6_repeat 38 (.if_icmp .le 13) 3 41 := dnAt dc_X6_repeat 25 rfl rfl
theorem d_X6_repeat_41 : dn cX6_repeat 41 (.new 64) 3 44 := dnAt dc_X6_repeat 26 rfl rfl
theorem d_X6_repeat_44 : dn cX6_repeat 44 (.dup) 1 45 := dnAt dc_X6_repeat 27 rfl rfl
theorem d_X6_repeat_45 : dn cX6_repeat 45 (.ldc 160) 2 47 := dnAt dc_X6_repeat 28 rfl rfl
theorem d_X6_repeat_47 : dn cX6_repeat 47 (.invokespecial 68) 3 50 := dnAt dc_X6_repeat 29 rfl rfl
theorem d_X6_repeat_50 : dn cX6_repeat 50 (.athrow) 1 51 := dnAt dc_X6_repeat 30 rfl rfl
theorem d_X6_repeat_51 : dn cX6_repeat 51 (.aload_n 0) 1 52 := dnAt dc_X6_repeat 31 rfl rfl
theorem d_X6_repeat_52 : dn cX6_repeat 52 (.iconst 1) 1 53 := dnAt dc_X6_repeat 32 rfl rfl
theorem d_X6_repeat_53 : dn cX6_repeat 53 (.invokevirtual 130) 3 56 := dnAt dc_X6_repeat 33 rfl rfl
theorem d_X6_repeat_56 : dn cX6_repeat 56 (.aload_n 0) 1 57 := dnAt dc_X6_repeat 34 rfl rfl
theorem d_X6_repeat_57 : dn cX6_repeat 57 (.aload_n 3) 1 58 := dnAt dc_X6_repeat 35 rfl rfl
theorem d_X6_repeat_58 : dn cX6_repeat 58 (.iload_n 1) 1 59 := dnAt dc_X6_repeat 36 rfl rfl
theorem d_X6_repeat_59 : dn cX6_repeat 59 (.iload_n 2) 1 60 := dnAt dc_X6_repeat 37 rfl rfl
theorem d_X6_repeat_60 : dn cX6_repeat 60 (.invokestatic 162) 3 63 := dnAt dc_X6_repeat 38 rfl rfl
theorem d_X6_repeat_63 : dn cX6_repeat 63 (.invokevirtual 119) 3 66 := dnAt dc_X6_repeat 39 rfl rfl
theorem d_X6_repeat_66 : dn cX6_repeat 66 (.pop) 1 67 := dnAt dc_X6_repeat 40 rfl rfl
theorem d_X6_repeat_67 : dn cX6_repeat 67 (.iload 4) 2 69 := dnAt dc_X6_repeat 41 rfl rfl
theorem d_X6_repeat_69 : dn cX6_repeat 69 (.ireturn) 1 70 := dnAt dc_X6_repeat 42 rfl rfl
set_option maxHeartbeats 4000000 in
set_option maxRecDepth 100000 in
theorem k_repeat {l : Launch} {G : eG} {ad : Nat → Nat → Nat} {h : hp} {g : mS} {T : Nat → tC3} {Y : Nat → pA} {least most : Int32} (hlf : l.stackTraces = false) (hm : co G ad g h) (I : mInv g) (L8 : plk G ad h g T Y) (HL : ∀ i, i < mK g 16 → (Y i).2.2.1 < 2 ^ (Y i).1) : kX l G ad h yX6_repeat cX6_repeat 5 (Option.some Jvm.ClassFile.FieldType.int) { frames := 7, cells := 18, slots := 133, locals := 112 } [.ref (ad 0 0), .int least, .int most] (fun v9 g9 h9 => v9 = some (.int (nI (mTests g + (Y (mK g 16 - 1 - 0)).1 * (tn most - 1)))) ∧ cRep g least most = 0 ∧ ∃ a, g9 = psh (poS g 1) a ∧ prA G ad h9 a (rpA (Y (mK g 16 - 1 - 0)) (tn least) (tn most - 1)) false) (fun E9 g9 => (E9 = "java/lang/IllegalArgumentException" ∧ cRep g least most = 1 ∨ E9 = "java/lang/IllegalStateException" ∧ cRep g least most = 2) ∧ g9 = g) := by
  refine kX.of hlf hm (by decide) (Nat.le_of_ble_eq_true rfl) ?_
  intro x C A TY X
  show VC G x ad h g 0 0 0 [(0, .ref (ad 0 0)), (1, .int least), (2, .int most)] []
  refine c_iload_n C d_X6_repeat_0 2 rfl ?_
  refine c_iconst C d_X6_repeat_1 (v := (nI 1)) rfl ?_
  refine c_iconst C d_X6_repeat_2 (v := (nI 3)) rfl ?_
  refine k_callSX C X cfr_rf d_X6_repeat_3 ok_RX6_57 (fun l h hl hm hf => k_demandRange hl hm most ((nI 1)) ((nI 3))) (rest := []) rfl rfl (Nat.le_of_ble_eq_true rfl) ⟨⟨by decide, by decide⟩, Nat.le_of_ble_eq_true rfl, Nat.le_of_ble_eq_true rfl⟩ (fun _ _ e => ⟨Or.inl ⟨e.1, cRep_1 (areR_F1 e.2.1)⟩, e.2.2⟩) (fun v9 g9 hq1 e9 F1 => ?_)
  obtain ⟨rfl, z1, i1⟩ := e9
  refine c_eq z1 ?_
  refine c_base F1 ?_
  show VC G x ad h g 1 6 6 [(0, .ref (ad 0 0)), (1, .int least), (2, .int most)] []
  refine c_iload_n C d_X6_repeat_6 1 rfl ?_
  refine c_iconst C d_X6_repeat_7 (v := (nI 0)) rfl ?_
  refine c_iload_n C d_X6_repeat_8 2 rfl ?_
  refine k_callSX C X cfr_rf d_X6_repeat_9 ok_RX6_57 (fun l h hl hm hf => k_demandRange hl hm least ((nI 0)) most) (rest := []) rfl rfl (Nat.le_of_ble_eq_true rfl) ⟨⟨by decide, by decide⟩, Nat.le_of_ble_eq_true rfl, Nat.le_of_ble_eq_true rfl⟩ (fun _ _ e => ⟨Or.inl ⟨e.1, cRep_1 (areR_F2 i1 e.2.1)⟩, e.2.2⟩) (fun v9 g9 hq2 e9 F2 => ?_)
  obtain ⟨rfl, z2, i2⟩ := e9
  refine c_eq z2 ?_
  refine c_base F2 ?_
  show VC G x ad h g 2 12 12 [(0, .ref (ad 0 0)), (1, .int least), (2, .int most)] []
  have iR := areR_T i1 i2
  obtain ⟨j1, j2, j3, j4, j5⟩ := areR_of iR
  refine c_lve (lv' := [(0, .ref (ad 0 0)), (1, .int (nI (tn least))), (2, .int (nI (tn most)))]) (by rw [← j1, ← j2]) ?_
  refine c_aload_n C d_X6_repeat_12 0 rfl ?_
  refine c_iconst C d_X6_repeat_13 (v := (nI 0)) rfl ?_
  refine k_callVX C X cfr_rf d_X6_repeat_14 ok_RX6_141 (k := 0) (i' := 0) (fun l h hl hm hf => k_partFromTop (o := 0) hl hm L8.1 (fun j hj => (L8.2 j hj).1.1) (by omega)) rfl rfl rfl rfl (rest := []) rfl rfl (Nat.le_of_ble_eq_true rfl) ⟨⟨by decide, by decide⟩, Nat.le_of_ble_eq_true rfl, Nat.le_of_ble_eq_true rfl⟩ (fun _ _ e => ⟨Or.inr (⟨e.1, by rw [cRep, if_pos iR, if_neg (by unfold canR; rw [decide_eq_false (by have := e.2.1; omega)]; exact Bool.false_ne_true)]⟩), e.2.2⟩) (fun v9 g9 hq3 e9 F3 => ?_)
  obtain ⟨rfl, z3, i3⟩ := e9
  refine c_eq z3 ?_
  have R3 := (L8.2 (mK g 16 - 1 - 0) (by omega)).2
  refine c_base F3 ?_
  show VC G x ad h g 3 18 17 [(0, .ref (ad 0 0)), (1, .int (nI (tn least))), (2, .int (nI (tn most)))] [.ref (mN g 60 (mK g 16 - 1 - 0) - 1)]
  obtain ⟨na, pta, pna, n1a, n2a, h1a, h2a, h3a⟩ := id R3.1
  have N1 := (L8.2 (mK g 16 - 1 - 0) (by omega)).1.2
  have hT8 := mTests_le I
  have hn8 : mN g 8 (12 + mK g 16 - 1) ≤ 8 := by have := R3.2.1.2.1; rw [N1, show 12 + (mK g 16 - 1 - 0) = 12 + mK g 16 - 1 by omega] at this; exact this
  have cR := canR_iff j2 j4 j5 (by omega) hn8 hT8
  rw [show mN g 8 (12 + mK g 16 - 1) = (Y (mK g 16 - 1 - 0)).1 by rw [N1, show 12 + (mK g 16 - 1 - 0) = 12 + mK g 16 - 1 by omega]] at cR
  have hm16 : (Y (mK g 16 - 1 - 0)).1 * (tn most - 1) ≤ 8 * 2 := Nat.mul_le_mul R3.2.1.2.1 (by omega)
  refine c_astore_n C d_X6_repeat_17 (lv' := [(3, .ref (mN g 60 (mK g 16 - 1 - 0) - 1)), (0, .ref (ad 0 0)), (1, .int (nI (tn least))), (2, .int (nI (tn most)))]) (by decide) rfl ?_
  refine c_aload_n C d_X6_repeat_18 1 rfl ?_
  refine k_callV C d_X6_repeat_19 ok_RX6_152 (k := 0) (i' := 0) (fun l h hm hf => k_testsOnPile (N := fun i => mN g 8 (12 + i)) hm L8.1 (fun i hi => ⟨(L8.pil.2 i hi).1.1, (L8.pil.2 i hi).1.2.1, (L8.pil.2 i hi).1.2.2.mv hf⟩)) rfl rfl rfl rfl (rest := []) rfl rfl (Nat.le_of_ble_eq_true rfl) ⟨⟨by decide, by decide⟩, Nat.le_of_ble_eq_true rfl, Nat.le_of_ble_eq_true rfl⟩ (fun v9 g9 hq4 e9 F4 => ?_)
  obtain ⟨rfl, z4⟩ := e9
  refine c_eq z4 ?_
  refine c_base F4 ?_
  show VC G x ad h g 3 18 22 [(3, .ref (mN g 60 (mK g 16 - 1 - 0) - 1)), (0, .ref (ad 0 0)), (1, .int (nI (tn least))), (2, .int (nI (tn most)))] [.int (nI (mTests g))]
  refine c_aload_n C d_X6_repeat_22 0 rfl ?_
  refine c_getN C d_X6_repeat_23 fd_RX6_156 (na) (h1a) (v := .ref pta) rfl ?_
  refine c_alenN C d_X6_repeat_26 rfl (n1a) (h2a) ?_
  refine c_iload_n C d_X6_repeat_27 3 rfl ?_
  refine c_iconst C d_X6_repeat_28 (v := (nI 1)) rfl ?_
  refine cn_isub C d_X6_repeat_29 (by omega) ?_
  refine cn_imul C d_X6_repeat_30 ?_
  refine cn_iadd C d_X6_repeat_31 ?_
  refine c_istore C d_X6_repeat_32 (lv' := [(4, .int (nI ((mTests g) + (((Y (mK g 16 - 1 - 0)).1) * ((tn most) - 1))))), (3, .ref (mN g 60 (mK g 16 - 1 - 0) - 1)), (0, .ref (ad 0 0)), (1, .int (nI (tn least))), (2, .int (nI (tn most)))]) (by decide) rfl ?_
  refine c_iload C d_X6_repeat_34 0 rfl ?_
  refine c_bipush C d_X6_repeat_36 (v := (nI 8)) rfl ?_
  refine cn_icmp_le C d_X6_repeat_38 (tgt := 51) rfl (by omega) (by omega) (fun c_38 => ?_) (fun c_38 => ?_)
  · skip
    have c0 : cRep g least most = 0 := by rw [cRep, if_pos iR, if_pos (by rw [cR]; exact decide_eq_true (by omega))]
    have hpt : (Y (mK g 16 - 1 - 0)).1 ≤ mTests g := by have := part_le (S := g) (by omega); rw [N1, show 12 + (mK g 16 - 1 - 0) = 12 + mK g 16 - 1 by omega]; exact this
    have hm8 : (Y (mK g 16 - 1 - 0)).1 * tn most ≤ 8 := by have := Nat.mul_succ ((Y (mK g 16 - 1 - 0)).1) (tn most - 1); rw [show (tn most - 1).succ = tn most by omega] at this; omega
    refine c_aload_n C d_X6_repeat_51 2 rfl ?_
    refine c_iconst C d_X6_repeat_52 (v := (nI 1)) rfl ?_
    refine k_callV C d_X6_repeat_53 ok_RX6_130 (k := 0) (i' := 0) (fun l h hm hf => k_pop hm (L8.1) (by omega)) rfl rfl rfl rfl (rest := []) rfl rfl (Nat.le_of_ble_eq_true rfl) ⟨⟨by decide, by decide⟩, Nat.le_of_ble_eq_true rfl, Nat.le_of_ble_eq_true rfl⟩ (fun v9 g9 hq5 e9 F5 => ?_)
    obtain ⟨rfl, z5⟩ := e9
    refine c_eq z5 ?_
    refine c_base F5 ?_
    show VC G x ad h (poS g 1) 3 18 56 [(4, .int (nI ((mTests g) + (((Y (mK g 16 - 1 - 0)).1) * ((tn most) - 1))))), (3, .ref (mN g 60 (mK g 16 - 1 - 0) - 1)), (0, .ref (ad 0 0)), (1, .int (nI (tn least))), (2, .int (nI (tn most)))] []
    refine c_aload_n C d_X6_repeat_56 2 rfl ?_
    refine c_aload_n C d_X6_repeat_57 1 rfl ?_
    refine c_iload_n C d_X6_repeat_58 3 rfl ?_
    refine c_iload_n C d_X6_repeat_59 4 rfl ?_
    refine k_callM C d_X6_repeat_60 ok_RX6_162 (fun l h hm hf => k_ofRepeat (R3.mv hf).co j4 j5 hm8 (by omega) R3.2.1.1 (rp_256 (HL (mK g 16 - 1 - 0) (by omega)) hm8)) (fun h v h1 q => (fun ⟨a, b, c, d⟩ => c) q) (rest := [.ref (ad 0 0)]) rfl rfl (Nat.le_of_ble_eq_true rfl) ⟨⟨by decide, by decide⟩, Nat.le_of_ble_eq_true rfl, Nat.le_of_ble_eq_true rfl⟩ (fun v9 hp6 hq6 M6 e9 F6 l6 => ?_)
    obtain ⟨a6, rfl, -, d6⟩ := e9
    show VC G x ad hq6 (poS g 1) 18 133 63 [(4, .int (nI ((mTests g) + (((Y (mK g 16 - 1 - 0)).1) * ((tn most) - 1))))), (3, .ref (mN g 60 (mK g 16 - 1 - 0) - 1)), (0, .ref (ad 0 0)), (1, .int (nI (tn least))), (2, .int (nI (tn most)))] [.ref a6, .ref (ad 0 0)]
    have Q6 := pnw_p M6 d6
    obtain ⟨na6, pt6, pn6, y16, y26, y36, y46, y56⟩ := id Q6
    refine k_callV C d_X6_repeat_63 ok_RX6_119 (k := 0) (i' := 0) (fun l h hm hf => k_push hm ((by show mK g 16 - 1 < 8; have := L8.1; omega)) (na6) (hf _ _ na6.w y36)) rfl rfl rfl rfl (rest := []) rfl rfl (Nat.le_of_ble_eq_true rfl) ⟨⟨by decide, by decide⟩, Nat.le_of_ble_eq_true rfl, Nat.le_of_ble_eq_true rfl⟩ (fun v9 g9 hq7 e9 F7 => ?_)
    obtain ⟨rfl, z7⟩ := e9
    refine c_eq z7 ?_
    refine c_base F7 ?_
    show VC G x ad hq6 (uK (uN (poS g 1) 60 (mK (poS g 1) 16) (a6 + 1)) 16 (mK (poS g 1) 16 + 1)) 18 133 66 [(4, .int (nI ((mTests g) + (((Y (mK g 16 - 1 - 0)).1) * ((tn most) - 1))))), (3, .ref (mN g 60 (mK g 16 - 1 - 0) - 1)), (0, .ref (ad 0 0)), (1, .int (nI (tn least))), (2, .int (nI (tn most)))] [.int (nI (mK (poS g 1) 16 + 1))]
    refine c_pop C d_X6_repeat_66 rfl ?_
    refine c_iload C d_X6_repeat_67 0 rfl ?_
    refine c_st (st' := [.int (nI (mTests g + (Y (mK g 16 - 1 - 0)).1 * (tn most - 1)))]) (rfl) ?_
    exact k_iret C A (cfr_tr cfr_rf (cfr.le F6 l6)) TY d_X6_repeat_69 rfl (Nat.le_of_ble_eq_true rfl) (Nat.le_of_ble_eq_true rfl) (fun h9 F9 => ⟨rfl, c0, a6, rfl, prA.mv Q6 F9⟩)
  · skip
    exact k_throw C X cfr_rf d_X6_repeat_41 d_X6_repeat_44 d_X6_repeat_45 d_X6_repeat_47 d_X6_repeat_50 th_64 (text := "too many tests") (by decide) ⟨by decide, Nat.le_of_ble_eq_true rfl, Nat.le_of_ble_eq_true rfl, Nat.le_of_ble_eq_true rfl⟩ (⟨Or.inr (⟨rfl, by rw [cRep, if_pos iR, if_neg (by rw [cR, decide_eq_false (by omega)]; decide)]⟩), rfl⟩)
def dl_X6_keep : List (Nat × Instr × Nat) := [(0, .aload_n 0, 1), (1, .getfield 25, 3), (4, .iconst 1, 1), (5, .if_icmp .ne 12, 3), (8, .aload_n 0, 1), (9, .getfield 31, 3), (12, .bipush 12, 2), (14, .if_icmp .lt 13, 3), (17, .new 64, 3), (20, .dup, 1), (21, .ldc 166, 2), (23, .invokespecial 68, 3), (26, .athrow, 1), (27, .aload_n 0, 1), (28, .getfield 31, 3), (31, .istore_n 1, 1), (32, .aload_n 0, 1), (33, .getfield 28, 3), (36, .iload_n 1, 1), (37, .aload_n 0, 1), (38, .getfield 21, 3), (41, .iconst 0, 1), (42, .aaload, 1), (43, .aastore, 1), (44, .aload_n 0, 1), (45, .dup, 1), (46, .getfield 31, 3), (49, .iconst 1, 1), (50, .iadd, 1), (51, .putfield 31, 3), (54, .aload_n 0, 1), (55, .iconst 1, 1), (56, .invokevirtual 130, 3), (59, .iload_n 1, 1), (60, .ireturn, 1)]
theorem dc_X6_keep : dnL cX6_keep dl_X6_keep = true := by decide +kernel
theorem d_X6_keep_0 : dn cX6_keep 0 (.aload_n 0) 1 1 := dnAt dc_X6_keep 0 rfl rfl
theorem d_X6_keep_1 : dn cX6_keep 1 (.getfield 25) 3 4 := dnAt dc_X6_keep 1 rfl rfl
theorem d_X6_keep_4 : dn cX6_keep 4 (.iconst 1) 1 5 := dnAt dc_X6_keep 2 rfl rfl
theorem d_X6_keep_5 : dn cX6_keep 5 (.if_icmp .ne 12) 3 8 := dnAt dc_X6_keep 3 rfl rfl
theorem d_X6_keep_8 : dn cX6_keep 8 (.aload_n 0) 1 9 := dnAt dc_X6_keep 4 rfl rfl
theorem d_X6_keep_9 : dn cX6_keep 9 (.getfield 31) 3 12 := dnAt dc_X6_keep 5 rfl rfl
theorem d_X6_keep_12 : dn cX6_keep 12 (.bipush 12) 2 14 := dnAt dc_X6_keep 6 rfl rfl
theorem d_X6_keep_14 : dn cX6_keep 14 (.if_icmp .lt 13) 3 17 := dnAt dc_X6_keep 7 rfl rfl
theorem d_X6_keep_17 : dn cX6_keep 17 (.new 64) 3 20 := dnAt dc_X6_keep 8 rfl rfl
theorem d_X6_keep_20 : dn cX6_keep 20 (.dup) 1 21 := dnAt dc_X6_keep 9 rfl rfl
theorem d_X6_keep_21 : dn cX6_keep 21 (.ldc 166) 2 23 := dnAt dc_X6_keep 10 rfl rfl
theorem d_X6_keep_23 : dn cX6_keep 23 (.invokespecial 68) 3 26 := dnAt dc_X6_keep 11 rfl rfl
theorem d_X6_keep_26 : dn cX6_keep 26 (.athrow) 1 27 := dnAt dc_X6_keep 12 rfl rfl
theorem d_X6_keep_27 : dn cX6_keep 27 (.aload_n 0) 1 28 := dnAt dc_X6_keep 13 rfl rfl
theorem d_X6_keep_28 : dn cX6_keep 28 (.getfield 31) 3 31 := dnAt dc_X6_keep 14 rfl rfl
theorem d_X6_keep_31 : dn cX6_keep 31 (.istore_n 1) 1 32 := dnAt dc_X6_keep 15 rfl rfl
theorem d_X6_keep_32 : dn cX6_keep 32 (.aload_n 0) 1 33 := dnAt dc_X6_keep 16 rfl rfl
theorem d_X6_keep_33 : dn cX6_keep 33 (.getfield 28) 3 36 := dnAt dc_X6_keep 17 rfl rfl
theorem d_X6_keep_36 : dn cX6_keep 36 (.iload_n 1) 1 37 := dnAt dc_X6_keep 18 rfl rfl
theorem d_X6_keep_37 : dn cX6_keep 37 (.aload_n 0) 1 38 := dnAt dc_X6_keep 19 rfl rfl
theorem d_X6_keep_38 : dn cX6_keep 38 (.getfield 21) 3 41 := dnAt dc_X6_keep 20 rfl rfl
theorem d_X6_keep_41 : dn cX6_keep 41 (.iconst 0) 1 42 := dnAt dc_X6_keep 21 rfl rfl
theorem d_X6_keep_42 : dn cX6_keep 42 (.aaload) 1 43 := dnAt dc_X6_keep 22 rfl rfl
theorem d_X6_keep_43 : dn cX6_keep 43 (.aastore) 1 44 := dnAt dc_X6_keep 23 rfl rfl
theorem d_X6_keep_44 : dn cX6_keep 44 (.aload_n 0) 1 45 := dnAt dc_X6_keep 24 rfl rfl
theorem d_X6_keep_45 : dn cX6_keep 45 (.dup) 1 46 := dnAt dc_X6_keep 25 rfl rfl
theorem d_X6_keep_46 : dn cX6_keep 46 (.getfield 31) 3 49 := dnAt dc_X6_keep 26 rfl rfl
theorem d_X6_keep_49 : dn cX6_keep 49 (.iconst 1) 1 50 := dnAt dc_X6_keep 27 rfl rfl
theorem d_X6_keep_50 : dn cX6_keep 50 (.iadd) 1 51 := dnAt dc_X6_keep 28 rfl rfl
theorem d_X6_keep_51 : dn cX6_keep 51 (.putfield 31) 3 54 := dnAt dc_X6_keep 29 rfl rfl
theorem d_X6_keep_54 : dn cX6_keep 54 (.aload_n 0) 1 55 := dnAt dc_X6_keep 30 rfl rfl
theorem d_X6_keep_55 : dn cX6_keep 55 (.iconst 1) 1 56 := dnAt dc_X6_keep 31 rfl rfl
theorem d_X6_keep_56 : dn cX6_keep 56 (.invokevirtual 130) 3 59 := dnAt dc_X6_keep 32 rfl rfl
theorem d_X6_keep_59 : dn cX6_keep 59 (.iload_n 1) 1 60 := dnAt dc_X6_keep 33 rfl rfl
theorem d_X6_keep_60 : dn cX6_keep 60 (.ireturn) 1 61 := dnAt dc_X6_keep 34 rfl rfl
set_option maxHeartbeats 4000000 in
set_option maxRecDepth 100000 in
theorem k_keep {l : Launch} {G : eG} {ad : Nat → Nat → Nat} {h : hp} {g : mS} {T : Nat → tC3} {Y : Nat → pA} (hlf : l.stackTraces = false) (hm : co G ad g h) (I : mInv g) (L8 : plk G ad h g T Y) : kX l G ad h yX6_keep cX6_keep 2 (Option.some Jvm.ClassFile.FieldType.int) { frames := 6, cells := 1, slots := 6, locals := 90 } [.ref (ad 0 0)] (fun v9 g9 _ => v9 = some (.int (nI (mK g 15))) ∧ cKeep g = 0 ∧ g9 = poS (uK (uN g 61 (mK g 15) (mN g 60 0 - 1 + 1)) 15 (mK g 15 + 1)) 1) (fun E9 g9 => (E9 = "java/lang/IllegalStateException" ∧ cKeep g = 1) ∧ g9 = g) := by
  refine kX.of hlf hm (by decide) (Nat.le_of_ble_eq_true rfl) ?_
  intro x C A TY X
  show VC G x ad h g 0 0 0 [(0, .ref (ad 0 0))] []
  have h15 := pats_le I
  have h16 := L8.1
  refine c_aload_n C d_X6_keep_0 0 rfl ?_
  refine c_get C d_X6_keep_1 fd_RX6_25 (k := 0) (i' := 0) rfl rfl (v := .int (nI (mK g 16))) rfl ?_
  refine c_iconst C d_X6_keep_4 (v := (nI 1)) rfl ?_
  refine cn_icmp_ne C d_X6_keep_5 (tgt := 17) rfl (by omega) (by omega) (fun c_5 => ?_) (fun c_5 => ?_)
  · skip
    exact k_throw C X cfr_rf d_X6_keep_17 d_X6_keep_20 d_X6_keep_21 d_X6_keep_23 d_X6_keep_26 th_64 (text := "not just one part, or too many patterns") (by decide) ⟨by decide, Nat.le_of_ble_eq_true rfl, Nat.le_of_ble_eq_true rfl, Nat.le_of_ble_eq_true rfl⟩ (⟨⟨rfl, by rw [cKeep, if_neg (by omega)]⟩, rfl⟩)
  · skip
    refine c_aload_n C d_X6_keep_8 0 rfl ?_
    refine c_get C d_X6_keep_9 fd_RX6_31 (k := 0) (i' := 0) rfl rfl (v := .int (nI (mK g 15))) rfl ?_
    refine c_bipush C d_X6_keep_12 (v := (nI 12)) rfl ?_
    refine cn_icmp_lt C d_X6_keep_14 (tgt := 27) rfl (by omega) (by omega) (fun c_14 => ?_) (fun c_14 => ?_)
    · skip
      have c0 : cKeep g = 0 := by rw [cKeep, if_pos ⟨by omega, by omega⟩]
      obtain ⟨na, pta, pna, n1a, n2a, h1a, h2a, h3a⟩ := id (L8.2 0 (by omega)).2.1
      refine c_aload_n C d_X6_keep_27 0 rfl ?_
      refine c_get C d_X6_keep_28 fd_RX6_31 (k := 0) (i' := 0) rfl rfl (v := .int (nI (mK g 15))) rfl ?_
      refine c_istore_n C d_X6_keep_31 (lv' := [(1, .int (nI (mK g 15))), (0, .ref (ad 0 0))]) (by decide) rfl ?_
      refine c_aload_n C d_X6_keep_32 1 rfl ?_
      refine c_get C d_X6_keep_33 fd_RX6_28 (k := 0) (i' := 0) rfl rfl (v := .ref (ad 3 0)) rfl ?_
      refine c_iload_n C d_X6_keep_36 0 rfl ?_
      refine c_aload_n C d_X6_keep_37 1 rfl ?_
      refine c_get C d_X6_keep_38 fd_RX6_21 (k := 0) (i' := 0) rfl rfl (v := .ref (ad 2 0)) rfl ?_
      refine c_iconst C d_X6_keep_41 (v := (nI 0)) rfl ?_
      refine c_aPile C d_X6_keep_42 (s := 0) (a := mN g 60 0 - 1) (by omega) (by have := (L8.2 0 (by omega)).1.1; omega) ?_
      refine c_sPat C d_X6_keep_43 (s := mK g 15) (a := mN g 60 0 - 1) (by omega) (na) (h1a) ?_
      refine c_aload_n C d_X6_keep_44 1 rfl ?_
      refine c_dup C d_X6_keep_45 rfl ?_
      refine c_get C d_X6_keep_46 fd_RX6_31 (k := 0) (i' := 0) rfl rfl (v := .int (nI (mK (uN g 61 (mK g 15) (mN g 60 0 - 1 + 1)) 15))) rfl ?_
      refine c_st (st' := [.int (nI (mK g 15)), .ref (ad 0 0)]) (by first | rfl | simp only [mN_uN, mB_uB, mK_uK, and_self, if_true]) ?_
      refine c_iconst C d_X6_keep_49 (v := (nI 1)) rfl ?_
      refine cn_iadd C d_X6_keep_50 ?_
      refine c_put C d_X6_keep_51 pf_RX6_31 (k := 0) (i' := 0) (g' := uK (uN g 61 (mK g 15) (mN g 60 0 - 1 + 1)) 15 ((mK g 15) + 1)) rfl rfl rfl rfl (Nat.le_of_ble_eq_true rfl) rfl (rfl) (oth_K (by decide) rfl) ?_
      refine c_aload_n C d_X6_keep_54 1 rfl ?_
      refine c_iconst C d_X6_keep_55 (v := (nI 1)) rfl ?_
      refine k_callV C d_X6_keep_56 ok_RX6_130 (k := 0) (i' := 0) (fun l h hm hf => k_pop hm (by show mK g 16 ≤ 8; omega) (by show 1 ≤ mK g 16; omega)) rfl rfl rfl rfl (rest := []) rfl rfl (Nat.le_of_ble_eq_true rfl) ⟨⟨by decide, by decide⟩, Nat.le_of_ble_eq_true rfl, Nat.le_of_ble_eq_true rfl⟩ (fun v9 g9 hq1 e9 F1 => ?_)
      obtain ⟨rfl, z1⟩ := e9
      refine c_eq z1 ?_
      refine c_base F1 ?_
      show VC G x ad h (poS (uK (uN g 61 (mK g 15) (mN g 60 0 - 1 + 1)) 15 ((mK g 15) + 1)) 1) 0 0 59 [(1, .int (nI (mK g 15))), (0, .ref (ad 0 0))] []
      refine c_iload_n C d_X6_keep_59 0 rfl ?_
      exact k_iret C A cfr_rf TY d_X6_keep_60 rfl (Nat.le_of_ble_eq_true rfl) (Nat.le_of_ble_eq_true rfl) (fun h9 F9 => ⟨rfl, c0, rfl⟩)
    · skip
      exact k_throw C X cfr_rf d_X6_keep_17 d_X6_keep_20 d_X6_keep_21 d_X6_keep_23 d_X6_keep_26 th_64 (text := "not just one part, or too many patterns") (by decide) ⟨by decide, Nat.le_of_ble_eq_true rfl, Nat.le_of_ble_eq_true rfl, Nat.le_of_ble_eq_true rfl⟩ (⟨⟨rfl, by rw [cKeep, if_neg (by omega)]⟩, rfl⟩)
