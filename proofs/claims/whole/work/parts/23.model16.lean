theorem tw_22 : (Jvm.Cond.instanceMethod ({ cls := "java/lang/Object", name := "<init>", desc := "()V" } : Jvm.MethodName)) ∈ TB := tb_of 22 (by decide +kernel) rfl
theorem tw_23 : (Jvm.Cond.code ({ cls := "java/lang/Object", name := "<init>", desc := "()V" } : Jvm.MethodName) object_method_1_code (1 : Nat) (Option.none : Option Jvm.ClassFile.FieldType)) ∈ TB := tb_of 23 (by decide +kernel) rfl
theorem tw_46 : (Jvm.Cond.arrayClass Jvm.ClassFile.FieldType.int) ∈ TB := tb_of 46 (by decide +kernel) rfl
theorem tw_79 : (Jvm.Cond.arrayClass Jvm.ClassFile.FieldType.long) ∈ TB := tb_of 79 (by decide +kernel) rfl
theorem tw_660 : (Jvm.Cond.methodLink "CorpuslineModel" (1 : Nat) ({ cls := "java/lang/Object", name := "<init>", desc := "()V" } : Jvm.MethodName)) ∈ TB := tb_of 660 (by decide +kernel) rfl
theorem tw_731 : (Jvm.Cond.arrayClass Jvm.ClassFile.FieldType.boolean) ∈ TB := tb_of 731 (by decide +kernel) rfl
theorem pf_RX7_7 : pfOk RX7 7 6 1 (.array .int) true := ⟨_, _, _, tyX7, rfl, by decide, cw_6, tw_662, rfl, tyX7_ok, nmX7, rfl, by decide +kernel⟩
theorem pf_RX7_13 : pfOk RX7 13 6 2 (.array .int) true := ⟨_, _, _, tyX7, rfl, by decide, cw_6, tw_663, rfl, tyX7_ok, nmX7, rfl, by decide +kernel⟩
theorem pf_RX7_16 : pfOk RX7 16 6 3 (.array .int) true := ⟨_, _, _, tyX7, rfl, by decide, cw_6, tw_664, rfl, tyX7_ok, nmX7, rfl, by decide +kernel⟩
theorem pf_RX7_19 : pfOk RX7 19 6 4 (.array .int) true := ⟨_, _, _, tyX7, rfl, by decide, cw_6, tw_665, rfl, tyX7_ok, nmX7, rfl, by decide +kernel⟩
theorem pf_RX7_22 : pfOk RX7 22 6 5 (.array .boolean) true := ⟨_, _, _, tyX7, rfl, by decide, cw_6, tw_666, rfl, tyX7_ok, nmX7, rfl, by decide +kernel⟩
theorem pf_RX7_26 : pfOk RX7 26 6 6 (.array .boolean) true := ⟨_, _, _, tyX7, rfl, by decide, cw_6, tw_667, rfl, tyX7_ok, nmX7, rfl, by decide +kernel⟩
theorem pf_RX7_29 : pfOk RX7 29 6 7 (.array .long) true := ⟨_, _, _, tyX7, rfl, by decide, cw_6, tw_668, rfl, tyX7_ok, nmX7, rfl, by decide +kernel⟩
theorem pf_RX7_33 : pfOk RX7 33 6 8 (.array .int) true := ⟨_, _, _, tyX7, rfl, by decide, cw_6, tw_669, rfl, tyX7_ok, nmX7, rfl, by decide +kernel⟩
theorem pf_RX7_36 : pfOk RX7 36 6 9 (.array .boolean) true := ⟨_, _, _, tyX7, rfl, by decide, cw_6, tw_670, rfl, tyX7_ok, nmX7, rfl, by decide +kernel⟩
theorem pf_RX7_39 : pfOk RX7 39 6 10 (.array .boolean) true := ⟨_, _, _, tyX7, rfl, by decide, cw_6, tw_671, rfl, tyX7_ok, nmX7, rfl, by decide +kernel⟩
theorem pf_RX7_42 : pfOk RX7 42 6 11 (.array .int) true := ⟨_, _, _, tyX7, rfl, by decide, cw_6, tw_672, rfl, tyX7_ok, nmX7, rfl, by decide +kernel⟩
theorem pf_RX7_45 : pfOk RX7 45 6 12 (.array .long) true := ⟨_, _, _, tyX7, rfl, by decide, cw_6, tw_673, rfl, tyX7_ok, nmX7, rfl, by decide +kernel⟩
theorem pf_RX7_48 : pfOk RX7 48 6 13 (.array .int) true := ⟨_, _, _, tyX7, rfl, by decide, cw_6, tw_674, rfl, tyX7_ok, nmX7, rfl, by decide +kernel⟩
theorem pf_RX7_51 : pfOk RX7 51 6 14 (.array .int) true := ⟨_, _, _, tyX7, rfl, by decide, cw_6, tw_675, rfl, tyX7_ok, nmX7, rfl, by decide +kernel⟩
theorem pf_RX7_54 : pfOk RX7 54 6 17 (.array .boolean) true := ⟨_, _, _, tyX7, rfl, by decide, cw_6, tw_678, rfl, tyX7_ok, nmX7, rfl, by decide +kernel⟩
theorem pf_RX7_57 : pfOk RX7 57 6 18 (.array .boolean) true := ⟨_, _, _, tyX7, rfl, by decide, cw_6, tw_679, rfl, tyX7_ok, nmX7, rfl, by decide +kernel⟩
theorem pf_RX7_60 : pfOk RX7 60 6 19 (.array .int) true := ⟨_, _, _, tyX7, rfl, by decide, cw_6, tw_680, rfl, tyX7_ok, nmX7, rfl, by decide +kernel⟩
theorem pf_RX7_63 : pfOk RX7 63 6 20 (.array .int) true := ⟨_, _, _, tyX7, rfl, by decide, cw_6, tw_681, rfl, tyX7_ok, nmX7, rfl, by decide +kernel⟩
theorem pf_RX7_66 : pfOk RX7 66 6 21 (.array .int) true := ⟨_, _, _, tyX7, rfl, by decide, cw_6, tw_682, rfl, tyX7_ok, nmX7, rfl, by decide +kernel⟩
theorem pf_RX7_69 : pfOk RX7 69 6 22 (.array .int) true := ⟨_, _, _, tyX7, rfl, by decide, cw_6, tw_683, rfl, tyX7_ok, nmX7, rfl, by decide +kernel⟩
/-! the reference's constructor: d rows are there already -/
def mz : mS := (fun _ => 0, fun _ _ => 0, fun _ _ => false, fun _ _ => 0)
def rf (q : Nat → Nat) (d k : Nat) : Value := if k < d then .ref (q k) else .null
def mfsI (q : Nat → Nat) (d : Nat) : List Value := [.int (nI 0), rf q d 1, rf q d 2, rf q d 3, rf q d 4, rf q d 5, rf q d 6, rf q d 7, rf q d 8, rf q d 9, rf q d 10, rf q d 11, rf q d 12, rf q d 13, rf q d 14, .int (nI 0), .int (nI 0), rf q d 17, rf q d 18, rf q d 19, rf q d 20, rf q d 21, rf q d 22]
def qs (q : Nat → Nat) (k a : Nat) : Nat → Nat := fun z => if z = k then a else q z
def mi (G : eG) (a : Nat) (h0 : hp) (d : Nat) (q : Nat → Nat) (h : hp) : Prop := q 0 = a ∧ h a = some (oC 6 (mfsI q d)) ∧ (∀ j, j < d → mkind j ≠ 0 → h (q j) = some (mcell G mz j)) ∧ (∀ i j, i < d → j < d → (i = 0 ∨ mkind i ≠ 0) → (j = 0 ∨ mkind j ≠ 0) → q i = q j → i = j) ∧ ∀ b e, b ≠ a → h0 b = some e → h b = some e
theorem mi_skip {G : eG} {a d : Nat} {h0 h : hp} {q : Nat → Nat} (m : mi G a h0 d q h) (hd : 0 < d) (hk : mkind d = 0) (e : mfsI q (d + 1) = mfsI q d) : mi G a h0 (d + 1) q h := by
  obtain ⟨m1, m2, m3, m4, m5⟩ := m
  refine ⟨m1, by rw [e]; exact m2, fun j hj hj0 => ?_, fun i j hi hj hi0 hj0 => ?_, m5⟩
  · exact m3 j (by rcases Nat.lt_succ_iff_lt_or_eq.mp hj with z | z; exact z; subst z; exact absurd hk hj0) hj0
  · exact m4 i j (by rcases Nat.lt_succ_iff_lt_or_eq.mp hi with z | z; exact z; subst z; rcases hi0 with y | y; omega; exact absurd hk y) (by rcases Nat.lt_succ_iff_lt_or_eq.mp hj with z | z; exact z; subst z; rcases hj0 with y | y; omega; exact absurd hk y) hi0 hj0
theorem mi_step {G : eG} {a d b : Nat} {h0 h : hp} {q : Nat → Nat} {e : va_E} {fs : List Value} (m : mi G a h0 d q h) (hd : 0 < d) (hk : mkind d ≠ 0) (hb : h b = none) (he : e = mcell G mz d) (hf : fs = mfsI (qs q d b) (d + 1)) : mi G a h0 (d + 1) (qs q d b) (hup (hup h b e) a (oC 6 fs)) := by
  obtain ⟨m1, m2, m3, m4, m5⟩ := m
  have hba : b ≠ a := fun z => by rw [z, m2] at hb; cases hb
  have hq : ∀ j, j < d → qs q d b j = q j := fun j hj => by rw [qs, if_neg (by omega)]
  have hqd : qs q d b d = b := by rw [qs, if_pos rfl]
  have hnb : ∀ j, j < d → (j = 0 ∨ mkind j ≠ 0) → q j ≠ b := fun j hj hj0 z => by
    rcases hj0 with y | y
    · subst y; exact hba (by rw [← z, m1])
    · have := m3 j hj y; rw [z, hb] at this; cases this
  have hna : ∀ j, j < d → mkind j ≠ 0 → q j ≠ a := fun j hj hj0 z => by
    have := m4 j 0 hj hd (Or.inr hj0) (Or.inl rfl) (by rw [z, m1])
    subst this; exact hj0 rfl
  subst he hf
  refine ⟨by rw [hq 0 hd, m1], hup_s, fun j hj hj0 => ?_, fun i j hi hj hi0 hj0 hij => ?_, fun c e hc hce => ?_⟩
  · rcases Nat.lt_succ_iff_lt_or_eq.mp hj with z | z
    · rw [hq j z, hup_n (hna j z hj0), hup_n (hnb j z (Or.inr hj0)), m3 j z hj0]
    · subst z; rw [hqd, hup_n hba, hup_s]
  · rcases Nat.lt_succ_iff_lt_or_eq.mp hi with z | z <;> rcases Nat.lt_succ_iff_lt_or_eq.mp hj with y | y
    · rw [hq i z, hq j y] at hij; exact m4 i j z y hi0 hj0 hij
    · subst y; rw [hq i z, hqd] at hij; exact absurd hij (hnb i z hi0)
    · subst z; rw [hq j y, hqd] at hij; exact absurd hij.symm (hnb j y hj0)
    · omega
  · rw [hup_n hc, hup_n (fun z => by subst z; have := m5 _ e hc hce; rw [hb] at this; cases this), m5 c e hc hce]
theorem mi_mo {G : eG} {a : Nat} {h0 h : hp} {q : Nat → Nat} (m : mi G a h0 23 q h) : mo G q mz h := by
  obtain ⟨m1, m2, m3, m4, m5⟩ := m
  exact ⟨by rw [m1, m2]; rfl, fun k hk hk0 => m3 k (by omega) hk0, fun i j hi hj => m4 i j (by omega) (by omega)⟩
def zj (j : Nat) : mS := sI mz 20 (fun z => if z < j then -1 else 0)
def z0 : mS := zj 8
theorem zj_step (j : Nat) : uI (zj j) 20 j (-1) = zj (j + 1) := mS_ext (fun _ => rfl) (fun _ _ => rfl) (fun _ _ => rfl) (fun k i => by
  show (if k = 20 ∧ i = j then (-1 : Int32) else mI (zj j) k i) = mI (zj (j + 1)) k i
  unfold zj
  rw [mI_sI, mI_sI]
  by_cases e : k = 20
  · simp only [e, if_true, true_and]
    by_cases f : i = j
    · rw [if_pos f, if_pos (by omega)]
    · by_cases g : i < j
      · rw [if_neg f, if_pos g, if_pos (by omega)]
      · rw [if_neg f, if_neg g, if_neg (by omega)]
  · simp only [e, false_and, if_false])
theorem ni_skip {a d : Nat} {h0 : hp} {q : Nat → Nat} (N : ∀ j, j < d → mkind j ≠ 0 → ∀ b e, b ≠ a → h0 b = some e → b ≠ q j) (hk : mkind d = 0) : ∀ j, j < d + 1 → mkind j ≠ 0 → ∀ b e, b ≠ a → h0 b = some e → b ≠ q j := fun j hj hj0 => N j (by rcases Nat.lt_succ_iff_lt_or_eq.mp hj with z | z; exact z; subst z; exact absurd hk hj0) hj0
theorem ni_step {a d c : Nat} {h0 h : hp} {q : Nat → Nat} (N : ∀ j, j < d → mkind j ≠ 0 → ∀ b e, b ≠ a → h0 b = some e → b ≠ q j) (_ : 0 < d) (F : ∀ b e, b ≠ a → h0 b = some e → h b = some e) (hc : h c = none) : ∀ j, j < d + 1 → mkind j ≠ 0 → ∀ b e, b ≠ a → h0 b = some e → b ≠ qs q d c j := fun j hj hj0 b e hb he z => by
  unfold qs at z
  split at z
  · subst z; have := F _ e hb he; rw [hc] at this; cases this
  · exact N j (by omega) hj0 b e hb he z
def dl_X7_init : List (Nat × Instr × Nat) := [(0, .aload_n 0, 1), (1, .invokespecial 1, 3), (4, .aload_n 0, 1), (5, .iconst 2, 1), (6, .newarray .int, 2), (8, .putfield 7, 3), (11, .aload_n 0, 1), (12, .sipush 240, 3), (15, .newarray .int, 2), (17, .putfield 13, 3), (20, .aload_n 0, 1), (21, .bipush 80, 2), (23, .newarray .int, 2), (25, .putfield 16, 3), (28, .aload_n 0, 1), (29, .bipush 80, 2), (31, .newarray .int, 2), (33, .putfield 19, 3), (36, .aload_n 0, 1), (37, .iconst 2, 1), (38, .newarray .boolean, 2), (40, .putfield 22, 3), (43, .aload_n 0, 1), (44, .iconst 2, 1), (45, .newarray .boolean, 2), (47, .putfield 26, 3), (50, .aload_n 0, 1), (51, .bipush 40, 2), (53, .newarray .long, 2), (55, .putfield 29, 3), (58, .aload_n 0, 1), (59, .bipush 21, 2), (61, .newarray .int, 2), (63, .putfield 33, 3), (66, .aload_n 0, 1), (67, .bipush 21, 2), (69, .newarray .boolean, 2), (71, .putfield 36, 3), (74, .aload_n 0, 1), (75, .sipush 5376, 3), (78, .newarray .boolean, 2), (80, .putfield 39, 3), (83, .aload_n 0, 1), (84, .sipush 504, 3), (87, .newarray .int, 2), (89, .putfield 42, 3), (92, .aload_n 0, 1), (93, .sipush 1008, 3), (96, .newarray .long, 2), (98, .putfield 45, 3), (101, .aload_n 0, 1), (102, .sipush 168, 3), (105, .newarray .int, 2), (107, .putfield 48, 3), (110, .aload_n 0, 1), (111, .sipush 168, 3), (114, .newarray .int, 2), (116, .putfield 51, 3), (119, .aload_n 0, 1), (120, .sipush 256, 3), (123, .newarray .boolean, 2), (125, .putfield 54, 3), (128, .aload_n 0, 1), (129, .sipush 256, 3), (132, .newarray .boolean, 2), (134, .putfield 57, 3), (137, .aload_n 0, 1), (138, .iconst 3, 1), (139, .newarray .int, 2), (141, .putfield 60, 3), (144, .aload_n 0, 1), (145, .bipush 8, 2), (147, .newarray .int, 2), (149, .putfield 63, 3), (152, .aload_n 0, 1), (153, .sipush 320, 3), (156, .newarray .int, 2), (158, .putfield 66, 3), (161, .aload_n 0, 1), (162, .bipush 100, 2), (164, .newarray .int, 2), (166, .putfield 69, 3), (169, .iconst 0, 1), (170, .istore_n 1, 1), (171, .iload_n 1, 1), (172, .bipush 8, 2), (174, .if_icmp .ge 16, 3), (177, .aload_n 0, 1), (178, .getfield 63, 3), (181, .iload_n 1, 1), (182, .iconst (-1), 1), (183, .iastore, 1), (184, .iinc 1 1, 3), (187, .goto (-16), 3), (190, .return_, 1)]
theorem dc_X7_init : dnL cX7_init dl_X7_init = true := by decide +kernel
theorem d_X7_init_0 : dn cX7_init 0 (.aload_n 0) 1 1 := dnAt dc_X7_init 0 rfl rfl
theorem d_X7_init_1 : dn cX7_init 1 (.invokespecial 1) 3 4 := dnAt dc_X7_init 1 rfl rfl
theorem d_X7_init_4 : dn cX7_init 4 (.aload_n 0) 1 5 := dnAt dc_X7_init 2 rfl rfl
theorem d_X7_init_5 : dn cX7_init 5 (.iconst 2) 1 6 := dnAt dc_X7_init 3 rfl rfl
theorem d_X7_init_6 : dn cX7_init 6 (.newarray .int) 2 8 := dnAt dc_X7_init 4 rfl rfl
theorem d_X7_init_8 : dn cX7_init 8 (.putfield 7) 3 11 := dnAt dc_X7_init 5 rfl rfl
theorem d_X7_init_11 : dn cX7_init 11 (.aload_n 0) 1 12 := dnAt dc_X7_init 6 rfl rfl
theorem d_X7_init_12 : dn cX7_init 12 (.sipush 240) 3 15 := dnAt dc_X7_init 7 rfl rfl
theorem d_X7_init_15 : dn cX7_init 15 (.newarray .int) 2 17 := dnAt dc_X7_init 8 rfl rfl
theorem d_X7_init_17 : dn cX7_init 17 (.putfield 13) 3 20 := dnAt dc_X7_init 9 rfl rfl
theorem d_X7_init_20 : dn cX7_init 20 (.aload_n 0) 1 21 := dnAt dc_X7_init 10 rfl rfl
theorem d_X7_init_21 : dn cX7_init 21 (.bipush 80) 2 23 := dnAt dc_X7_init 11 rfl rfl
theorem d_X7_init_23 : dn cX7_init 23 (.newarray .int) 2 25 := dnAt dc_X7_init 12 rfl rfl
theorem d_X7_init_25 : dn cX7_init 25 (.putfield 16) 3 28 := dnAt dc_X7_init 13 rfl rfl
theorem d_X7_init_28 : dn cX7_init 28 (.aload_n 0) 1 29 := dnAt dc_X7_init 14 rfl rfl
theorem d_X7_init_29 : dn cX7_init 29 (.bipush 80) 2 31 := dnAt dc_X7_init 15 rfl rfl
theorem d_X7_init_31 : dn cX7_init 31 (.newarray .int) 2 33 := dnAt dc_X7_init 16 rfl rfl
theorem d_X7_init_33 : dn cX7_init 33 (.putfield 19) 3 36 := dnAt dc_X7_init 17 rfl rfl
theorem d_X7_init_36 : dn cX7_init 36 (.aload_n 0) 1 37 := dnAt dc_X7_init 18 rfl rfl
theorem d_X7_init_37 : dn cX7_init 37 (.iconst 2) 1 38 := dnAt dc_X7_init 19 rfl rfl
theorem d_X7_init_38 : dn cX7_init 38 (.newarray .boolean) 2 40 := dnAt dc_X7_init 20 rfl rfl
theorem d_X7_init_40 : dn cX7_init 40 (.putfield 22) 3 43 := dnAt dc_X7_init 21 rfl rfl
theorem d_X7_init_43 : dn cX7_init 43 (.aload_n 0) 1 44 := dnAt dc_X7_init 22 rfl rfl
theorem d_X7_init_44 : dn cX7_init 44 (.iconst 2) 1 45 := dnAt dc_X7_init 23 rfl rfl
theorem d_X7_init_45 : dn cX7_init 45 (.newarray .boolean) 2 47 := dnAt dc_X7_init 24 rfl rfl
theorem d_X7_init_47 : dn cX7_init 47 (.putfield 26) 3 50 := dnAt dc_X7_init 25 rfl rfl
theorem d_X7_init_50 : dn cX7_init 50 (.aload_n 0) 1 51 := dnAt dc_X7_init 26 rfl rfl
theorem d_X7_init_51 : dn cX7_init 51 (.bipush 40) 2 53 := dnAt dc_X7_init 27 rfl rfl
theorem d_X7_init_53 : dn cX7_init 53 (.newarray .long) 2 55 := dnAt dc_X7_init 28 rfl rfl
theorem d_X7_init_55 : dn cX7_init 55 (.putfield 29) 3 58 := dnAt dc_X7_init 29 rfl rfl
theorem d_X7_init_58 : dn cX7_init 58 (.aload_n 0) 1 59 := dnAt dc_X7_init 30 rfl rfl
theorem d_X7_init_59 : dn cX7_init 59 (.bipush 21) 2 61 := dnAt dc_X7_init 31 rfl rfl
theorem d_X7_init_61 : dn cX7_init 61 (.newarray .int) 2 63 := dnAt dc_X7_init 32 rfl rfl
theorem d_X7_init_63 : dn cX7_init 63 (.putfield 33) 3 66 := dnAt dc_X7_init 33 rfl rfl
theorem d_X7_init_66 : dn cX7_init 66 (.aload_n 0) 1 67 := dnAt dc_X7_init 34 rfl rfl
theorem d_X7_init_67 : dn cX7_init 67 (.bipush 21) 2 69 := dnAt dc_X7_init 35 rfl rfl
theorem d_X7_init_69 : dn cX7_init 69 (.newarray .boolean) 2 71 := dnAt dc_X7_init 36 rfl rfl
theorem d_X7_init_71 : dn cX7_init 71 (.putfield 36) 3 74 := dnAt dc_X7_init 37 rfl rfl
theorem d_X7_init_74 : dn cX7_init 74 (.aload_n 0) 1 75 := dnAt dc_X7_init 38 rfl rfl
theorem d_X7_init_75 : dn cX7_init 75 (.sipush 5376) 3 78 := dnAt dc_X7_init 39 rfl rfl
theorem d_X7_init_78 : dn cX7_init 78 (.newarray .boolean) 2 80 := dnAt dc_X7_init 40 rfl rfl
theorem d_X7_init_80 : dn cX7_init 80 (.putfield 39) 3 83 := dnAt dc_X7_init 41 rfl rfl
theorem d_X7_init_83 : dn cX7_init 83 (.aload_n 0) 1 84 := dnAt dc_X7_init 42 rfl rfl
theorem d_X7_init_84 : dn cX7_init 84 (.sipush 504) 3 87 := dnAt dc_X7_init 43 rfl rfl
theorem d_X7_init_87 : dn cX7_init 87 (.newarray .int) 2 89 := dnAt dc_X7_init 44 rfl rfl
theorem d_X7_init_89 : dn cX7_init 89 (.putfield 42) 3 92 := dnAt dc_X7_init 45 rfl rfl
theorem d_X7_init_92 : dn cX7_init 92 (.aload_n 0) 1 93 := dnAt dc_X7_init 46 rfl rfl
theorem d_X7_init_93 : dn cX7_init 93 (.sipush 1008) 3 96 := dnAt dc_X7_init 47 rfl rfl
theorem d_X7_init_96 : dn cX7_init 96 (.newarray .long) 2 98 := dnAt dc_X7_init 48 rfl rfl
theorem d_X7_init_98 : dn cX7_init 98 (.putfield 45) 3 101 := dnAt dc_X7_init 49 rfl rfl
theorem d_X7_init_101 : dn cX7_init 101 (.aload_n 0) 1 102 := dnAt dc_X7_init 50 rfl rfl
theorem d_X7_init_102 : dn cX7_init 102 (.sipush 168) 3 105 := dnAt dc_X7_init 51 rfl rfl
theorem d_X7_init_105 : dn cX7_init 105 (.newarray .int) 2 107 := dnAt dc_X7_init 52 rfl rfl
theorem d_X7_init_107 : dn cX7_init 107 (.putfield 48) 3 110 := dnAt dc_X7_init 53 rfl rfl
theorem d_X7_init_110 : dn cX7_init 110 (.aload_n 0) 1 111 := dnAt dc_X7_init 54 rfl rfl
theorem d_X7_init_111 : dn cX7_init 111 (.sipush 168) 3 114 := dnAt dc_X7_init 55 rfl rfl
theorem d_X7_init_114 : dn cX7_init 114 (.newarray .int) 2 116 := dnAt dc_X7_init 56 rfl rfl
theorem d_X7_init_116 : dn cX7_init 116 (.putfield 51) 3 119 := dnAt dc_X7_init 57 rfl rfl
theorem d_X7_init_119 : dn cX7_init 119 (.aload_n 0) 1 120 := dnAt dc_X7_init 58 rfl rfl
theorem d_X7_init_120 : dn cX7_init 120 (.sipush 256) 3 123 := dnAt dc_X7_init 59 rfl rfl
theorem d_X7_init_123 : dn cX7_init 123 (.newarray .boolean) 2 125 := dnAt dc_X7_init 60 rfl rfl
theorem d_X7_init_125 : dn cX7_init 125 (.putfield 54) 3 128 := dnAt dc_X7_init 61 rfl rfl
theorem d_X7_init_128 : dn cX7_init 128 (.aload_n 0) 1 129 := dnAt dc_X7_init 62 rfl rfl
theorem d_X7_init_129 : dn cX7_init 129 (.sipush 256) 3 132 := dnAt dc_X7_init 63 rfl rfl
theorem d_X7_init_132 : dn cX7_init 132 (.newarray .boolean) 2 134 := dnAt dc_X7_init 64 rfl rfl
theorem d_X7_init_134 : dn cX7_init 134 (.putfield 57) 3 137 := dnAt dc_X7_init 65 rfl rfl
theorem d_X7_init_137 : dn cX7_init 137 (.aload_n 0) 1 138 := dnAt dc_X7_init 66 rfl rfl
theorem d_X7_init_138 : dn cX7_init 138 (.iconst 3) 1 139 := dnAt dc_X7_init 67 rfl rfl
theorem d_X7_init_139 : dn cX7_init 139 (.newarray .int) 2 141 := dnAt dc_X7_init 68 rfl rfl
theorem d_X7_init_141 : dn cX7_init 141 (.putfield 60) 3 144 := dnAt dc_X7_init 69 rfl rfl
theorem d_X7_init_144 : dn cX7_init 144 (.aload_n 0) 1 145 := dnAt dc_X7_init 70 rfl rfl
theorem d_X7_init_145 : dn cX7_init 145 (.bipush 8) 2 147 := dnAt dc_X7_init 71 rfl rfl
theorem d_X7_init_147 : dn cX7_init 147 (.newarray .int) 2 149 := dnAt dc_X7_init 72 rfl rfl
theorem d_X7_init_149 : dn cX7_init 149 (.putfield 63) 3 152 := dnAt dc_X7_init 73 rfl rfl
theorem d_X7_init_152 : dn cX7_init 152 (.aload_n 0) 1 153 := dnAt dc_X7_init 74 rfl rfl
theorem d_X7_init_153 : dn cX7_init 153 (.sipush 320) 3 156 := dnAt dc_X7_init 75 rfl rfl
theorem d_X7_init_156 : dn cX7_init 156 (.newarray .int) 2 158 := dnAt dc_X7_init 76 rfl rfl
theorem d_X7_init_158 : dn cX7_init 158 (.putfield 66) 3 161 := dnAt dc_X7_init 77 rfl rfl
theorem d_X7_init_161 : dn cX7_init 161 (.aload_n 0) 1 162 := dnAt dc_X7_init 78 rfl rfl
theorem d_X7_init_162 : dn cX7_init 162 (.bipush 100) 2 164 := dnAt dc_X7_init 79 rfl rfl
theorem d_X7_init_164 : dn cX7_init 164 (.newarray .int) 2 166 := dnAt dc_X7_init 80 rfl rfl
theorem d_X7_init_166 : dn cX7_init 166 (.putfield 69) 3 169 := dnAt dc_X7_init 81 rfl rfl
theorem d_X7_init_169 : dn cX7_init 169 (.iconst 0) 1 170 := dnAt dc_X7_init 82 rfl rfl
theorem d_X7_init_170 : dn cX7_init 170 (.istore_n 1) 1 171 := dnAt dc_X7_init 83 rfl rfl
theorem d_X7_init_171 : dn cX7_init 171 (.iload_n 1) 1 172 := dnAt dc_X7_init 84 rfl rfl
theorem d_X7_init_172 : dn cX7_init 172 (.bipush 8) 2 174 := dnAt dc_X7_init 85 rfl rfl
theorem d_X7_init_174 : dn cX7_init 174 (.if_icmp .ge 16) 3 177 := dnAt dc_X7_init 86 rfl rfl
theorem d_X7_init_177 : dn cX7_init 177 (.aload_n 0) 1 178 := dnAt dc_X7_init 87 rfl rfl
theorem d_X7_init_178 : dn cX7_init 178 (.getfield 63) 3 181 := dnAt dc_X7_init 88 rfl rfl
theorem d_X7_init_181 : dn cX7_init 181 (.iload_n 1) 1 182 := dnAt dc_X7_init 89 rfl rfl
theorem d_X7_init_182 : dn cX7_init 182 (.iconst (-1)) 1 183 := dnAt dc_X7_init 90 rfl rfl
theorem d_X7_init_183 : dn cX7_init 183 (.iastore) 1 184 := dnAt dc_X7_init 91 rfl rfl
theorem d_X7_init_184 : dn cX7_init 184 (.iinc 1 1) 3 187 := dnAt dc_X7_init 92 rfl rfl
theorem d_X7_init_187 : dn cX7_init 187 (.goto (-16)) 3 190 := dnAt dc_X7_init 93 rfl rfl
theorem d_X7_init_190 : dn cX7_init 190 (.return_) 1 191 := dnAt dc_X7_init 94 rfl rfl
set_option maxHeartbeats 4000000 in
set_option maxRecDepth 100000 in
theorem m_new (l : Launch) (G : eG) (a : Nat) (h : hp) (ha : h a = some (oC 6 (mfsI (fun _ => a) 1))) : MC l G yX7_init cX7_init 2 none { frames := 1, cells := 20, slots := 8655, locals := 40 } [.ref a] h (fun v h1 => v = none ∧ ∃ q, q 0 = a ∧ mo G q z0 h1 ∧ ∀ b e, b ≠ a → h b = some e → h1 b = some e) := by
  refine MC.of (by decide) (Nat.le_of_ble_eq_true rfl) ?_
  intro x C A TY CI
  replace CI := CI rfl
  show VV G x 0 0 h 0 [(0, .ref a)] []
  refine r_aload_n C d_X7_init_0 0 rfl ?_
  refine r_obj C d_X7_init_1 tw_660 tw_22 tw_23 (by decide) (by decide) ?_
  have M1 : mi G a h 1 (fun _ => a) h := ⟨rfl, ha, fun j hj hj0 => absurd (show mkind j = 0 by rw [show j = 0 by omega]; rfl) hj0, fun i j hi hj _ _ _ => by omega, fun b e _ z => z⟩
  have N1 : ∀ j, j < 1 → mkind j ≠ 0 → ∀ b e, b ≠ a → h b = some e → b ≠ (fun _ : Nat => a) j := fun j _ _ b e hb _ => hb
  revert M1 N1
  generalize (fun _ : Nat => a) = q1
  intro M1 N1
  refine r_aload_n C d_X7_init_4 0 rfl ?_
  refine r_iconst C d_X7_init_5 (v := nI 2) rfl ?_
  refine r_newI C d_X7_init_6 tw_46 (by decide) (Nat.le_of_ble_eq_true rfl) (Nat.le_of_ble_eq_true rfl) (fun b1 hb1 _ => ?_)
  have ha1 : hup h b1 (mcell G mz 1) a = some (oC 6 (mfsI q1 1)) := by rw [hup_n (fun z => by have := M1.2.1; rw [z, hb1] at this; cases this), M1.2.1]
  refine r_putF C CI d_X7_init_8 pf_RX7_7 (fun q9 e9 => by cases e9; rfl) ha1 rfl rfl (Nat.le_of_ble_eq_true rfl) (fs' := mfsI (qs q1 1 b1) 2) rfl ?_
  refine r_eqh (h' := hup (hup h b1 (mcell G mz 1)) a (oC 6 (mfsI (qs q1 1 b1) 2))) rfl ?_
  replace N1 := ni_step (q := q1) N1 (by decide) M1.2.2.2.2 hb1
  replace M1 := mi_step M1 (by decide) (by decide) hb1 rfl rfl (e := mcell G mz 1) (fs := mfsI (qs q1 1 b1) 2)
  clear ha1
  revert M1 N1
  generalize hup (hup h b1 (mcell G mz 1)) a (oC 6 (mfsI (qs q1 1 b1) 2)) = h1
  generalize qs q1 1 b1 = q2
  intro N1 M1
  clear hb1
  refine r_aload_n C d_X7_init_11 0 rfl ?_
  refine r_sipush C d_X7_init_12 (v := nI 240) rfl ?_
  refine r_newI C d_X7_init_15 tw_46 (by decide) (Nat.le_of_ble_eq_true rfl) (Nat.le_of_ble_eq_true rfl) (fun b2 hb2 _ => ?_)
  have ha2 : hup h1 b2 (mcell G mz 2) a = some (oC 6 (mfsI q2 2)) := by rw [hup_n (fun z => by have := M1.2.1; rw [z, hb2] at this; cases this), M1.2.1]
  refine r_putF C CI d_X7_init_17 pf_RX7_13 (fun q9 e9 => by cases e9; rfl) ha2 rfl rfl (Nat.le_of_ble_eq_true rfl) (fs' := mfsI (qs q2 2 b2) 3) rfl ?_
  refine r_eqh (h' := hup (hup h1 b2 (mcell G mz 2)) a (oC 6 (mfsI (qs q2 2 b2) 3))) rfl ?_
  replace N1 := ni_step (q := q2) N1 (by decide) M1.2.2.2.2 hb2
  replace M1 := mi_step M1 (by decide) (by decide) hb2 rfl rfl (e := mcell G mz 2) (fs := mfsI (qs q2 2 b2) 3)
  clear ha2
  revert M1 N1
  generalize hup (hup h1 b2 (mcell G mz 2)) a (oC 6 (mfsI (qs q2 2 b2) 3)) = h2
  generalize qs q2 2 b2 = q3
  intro N1 M1
  clear hb2
  refine r_aload_n C d_X7_init_20 0 rfl ?_
  refine r_bipush C d_X7_init_21 (v := nI 80) rfl ?_
  refine r_newI C d_X7_init_23 tw_46 (by decide) (Nat.le_of_ble_eq_true rfl) (Nat.le_of_ble_eq_true rfl) (fun b3 hb3 _ => ?_)
  have ha3 : hup h2 b3 (mcell G mz 3) a = some (oC 6 (mfsI q3 3)) := by rw [hup_n (fun z => by have := M1.2.1; rw [z, hb3] at this; cases this), M1.2.1]
  refine r_putF C CI d_X7_init_25 pf_RX7_16 (fun q9 e9 => by cases e9; rfl) ha3 rfl rfl (Nat.le_of_ble_eq_true rfl) (fs' := mfsI (qs q3 3 b3) 4) rfl ?_
  refine r_eqh (h' := hup (hup h2 b3 (mcell G mz 3)) a (oC 6 (mfsI (qs q3 3 b3) 4))) rfl ?_
  replace N1 := ni_step (q := q3) N1 (by decide) M1.2.2.2.2 hb3
  replace M1 := mi_step M1 (by decide) (by decide) hb3 rfl rfl (e := mcell G mz 3) (fs := mfsI (qs q3 3 b3) 4)
  clear ha3
  revert M1 N1
  generalize hup (hup h2 b3 (mcell G mz 3)) a (oC 6 (mfsI (qs q3 3 b3) 4)) = h3
  generalize qs q3 3 b3 = q4
  intro N1 M1
  clear hb3
  refine r_aload_n C d_X7_init_28 0 rfl ?_
  refine r_bipush C d_X7_init_29 (v := nI 80) rfl ?_
  refine r_newI C d_X7_init_31 tw_46 (by decide) (Nat.le_of_ble_eq_true rfl) (Nat.le_of_ble_eq_true rfl) (fun b4 hb4 _ => ?_)
  have ha4 : hup h3 b4 (mcell G mz 4) a = some (oC 6 (mfsI q4 4)) := by rw [hup_n (fun z => by have := M1.2.1; rw [z, hb4] at this; cases this), M1.2.1]
  refine r_putF C CI d_X7_init_33 pf_RX7_19 (fun q9 e9 => by cases e9; rfl) ha4 rfl rfl (Nat.le_of_ble_eq_true rfl) (fs' := mfsI (qs q4 4 b4) 5) rfl ?_
  refine r_eqh (h' := hup (hup h3 b4 (mcell G mz 4)) a (oC 6 (mfsI (qs q4 4 b4) 5))) rfl ?_
  replace N1 := ni_step (q := q4) N1 (by decide) M1.2.2.2.2 hb4
  replace M1 := mi_step M1 (by decide) (by decide) hb4 rfl rfl (e := mcell G mz 4) (fs := mfsI (qs q4 4 b4) 5)
  clear ha4
  revert M1 N1
  generalize hup (hup h3 b4 (mcell G mz 4)) a (oC 6 (mfsI (qs q4 4 b4) 5)) = h4
  generalize qs q4 4 b4 = q5
  intro N1 M1
  clear hb4
  refine r_aload_n C d_X7_init_36 0 rfl ?_
  refine r_iconst C d_X7_init_37 (v := nI 2) rfl ?_
  refine r_newZ C d_X7_init_38 tw_731 (by decide) (Nat.le_of_ble_eq_true rfl) (Nat.le_of_ble_eq_true rfl) (fun b5 hb5 _ => ?_)
  have ha5 : hup h4 b5 (mcell G mz 5) a = some (oC 6 (mfsI q5 5)) := by rw [hup_n (fun z => by have := M1.2.1; rw [z, hb5] at this; cases this), M1.2.1]
  refine r_putF C CI d_X7_init_40 pf_RX7_22 (fun q9 e9 => by cases e9; rfl) ha5 rfl rfl (Nat.le_of_ble_eq_true rfl) (fs' := mfsI (qs q5 5 b5) 6) rfl ?_
  refine r_eqh (h' := hup (hup h4 b5 (mcell G mz 5)) a (oC 6 (mfsI (qs q5 5 b5) 6))) rfl ?_
  replace N1 := ni_step (q := q5) N1 (by decide) M1.2.2.2.2 hb5
  replace M1 := mi_step M1 (by decide) (by decide) hb5 rfl rfl (e := mcell G mz 5) (fs := mfsI (qs q5 5 b5) 6)
  clear ha5
  revert M1 N1
  generalize hup (hup h4 b5 (mcell G mz 5)) a (oC 6 (mfsI (qs q5 5 b5) 6)) = h5
  generalize qs q5 5 b5 = q6
  intro N1 M1
  clear hb5
  refine r_aload_n C d_X7_init_43 0 rfl ?_
  refine r_iconst C d_X7_init_44 (v := nI 2) rfl ?_
  refine r_newZ C d_X7_init_45 tw_731 (by decide) (Nat.le_of_ble_eq_true rfl) (Nat.le_of_ble_eq_true rfl) (fun b6 hb6 _ => ?_)
  have ha6 : hup h5 b6 (mcell G mz 6) a = some (oC 6 (mfsI q6 6)) := by rw [hup_n (fun z => by have := M1.2.1; rw [z, hb6] at this; cases this), M1.2.1]
  refine r_putF C CI d_X7_init_47 pf_RX7_26 (fun q9 e9 => by cases e9; rfl) ha6 rfl rfl (Nat.le_of_ble_eq_true rfl) (fs' := mfsI (qs q6 6 b6) 7) rfl ?_
  refine r_eqh (h' := hup (hup h5 b6 (mcell G mz 6)) a (oC 6 (mfsI (qs q6 6 b6) 7))) rfl ?_
  replace N1 := ni_step (q := q6) N1 (by decide) M1.2.2.2.2 hb6
  replace M1 := mi_step M1 (by decide) (by decide) hb6 rfl rfl (e := mcell G mz 6) (fs := mfsI (qs q6 6 b6) 7)
  clear ha6
  revert M1 N1
  generalize hup (hup h5 b6 (mcell G mz 6)) a (oC 6 (mfsI (qs q6 6 b6) 7)) = h6
  generalize qs q6 6 b6 = q7
  intro N1 M1
  clear hb6
  refine r_aload_n C d_X7_init_50 0 rfl ?_
  refine r_bipush C d_X7_init_51 (v := nI 40) rfl ?_
  refine r_newJ C d_X7_init_53 tw_79 (by decide) (Nat.le_of_ble_eq_true rfl) (Nat.le_of_ble_eq_true rfl) (fun b7 hb7 _ => ?_)
  have ha7 : hup h6 b7 (mcell G mz 7) a = some (oC 6 (mfsI q7 7)) := by rw [hup_n (fun z => by have := M1.2.1; rw [z, hb7] at this; cases this), M1.2.1]
  refine r_putF C CI d_X7_init_55 pf_RX7_29 (fun q9 e9 => by cases e9; rfl) ha7 rfl rfl (Nat.le_of_ble_eq_true rfl) (fs' := mfsI (qs q7 7 b7) 8) rfl ?_
  refine r_eqh (h' := hup (hup h6 b7 (mcell G mz 7)) a (oC 6 (mfsI (qs q7 7 b7) 8))) rfl ?_
  replace N1 := ni_step (q := q7) N1 (by decide) M1.2.2.2.2 hb7
  replace M1 := mi_step M1 (by decide) (by decide) hb7 rfl rfl (e := mcell G mz 7) (fs := mfsI (qs q7 7 b7) 8)
  clear ha7
  revert M1 N1
  generalize hup (hup h6 b7 (mcell G mz 7)) a (oC 6 (mfsI (qs q7 7 b7) 8)) = h7
  generalize qs q7 7 b7 = q8
  intro N1 M1
  clear hb7
  refine r_aload_n C d_X7_init_58 0 rfl ?_
  refine r_bipush C d_X7_init_59 (v := nI 21) rfl ?_
  refine r_newI C d_X7_init_61 tw_46 (by decide) (Nat.le_of_ble_eq_true rfl) (Nat.le_of_ble_eq_true rfl) (fun b8 hb8 _ => ?_)
  have ha8 : hup h7 b8 (mcell G mz 8) a = some (oC 6 (mfsI q8 8)) := by rw [hup_n (fun z => by have := M1.2.1; rw [z, hb8] at this; cases this), M1.2.1]
  refine r_putF C CI d_X7_init_63 pf_RX7_33 (fun q9 e9 => by cases e9; rfl) ha8 rfl rfl (Nat.le_of_ble_eq_true rfl) (fs' := mfsI (qs q8 8 b8) 9) rfl ?_
  refine r_eqh (h' := hup (hup h7 b8 (mcell G mz 8)) a (oC 6 (mfsI (qs q8 8 b8) 9))) rfl ?_
  replace N1 := ni_step (q := q8) N1 (by decide) M1.2.2.2.2 hb8
  replace M1 := mi_step M1 (by decide) (by decide) hb8 rfl rfl (e := mcell G mz 8) (fs := mfsI (qs q8 8 b8) 9)
  clear ha8
  revert M1 N1
  generalize hup (hup h7 b8 (mcell G mz 8)) a (oC 6 (mfsI (qs q8 8 b8) 9)) = h8
  generalize qs q8 8 b8 = q9
  intro N1 M1
  clear hb8
  refine r_aload_n C d_X7_init_66 0 rfl ?_
  refine r_bipush C d_X7_init_67 (v := nI 21) rfl ?_
  refine r_newZ C d_X7_init_69 tw_731 (by decide) (Nat.le_of_ble_eq_true rfl) (Nat.le_of_ble_eq_true rfl) (fun b9 hb9 _ => ?_)
  have ha9 : hup h8 b9 (mcell G mz 9) a = some (oC 6 (mfsI q9 9)) := by rw [hup_n (fun z => by have := M1.2.1; rw [z, hb9] at this; cases this), M1.2.1]
  refine r_putF C CI d_X7_init_71 pf_RX7_36 (fun q9 e9 => by cases e9; rfl) ha9 rfl rfl (Nat.le_of_ble_eq_true rfl) (fs' := mfsI (qs q9 9 b9) 10) rfl ?_
  refine r_eqh (h' := hup (hup h8 b9 (mcell G mz 9)) a (oC 6 (mfsI (qs q9 9 b9) 10))) rfl ?_
  replace N1 := ni_step (q := q9) N1 (by decide) M1.2.2.2.2 hb9
  replace M1 := mi_step M1 (by decide) (by decide) hb9 rfl rfl (e := mcell G mz 9) (fs := mfsI (qs q9 9 b9) 10)
  clear ha9
  revert M1 N1
  generalize hup (hup h8 b9 (mcell G mz 9)) a (oC 6 (mfsI (qs q9 9 b9) 10)) = h9
  generalize qs q9 9 b9 = q10
  intro N1 M1
  clear hb9
  refine r_aload_n C d_X7_init_74 0 rfl ?_
  refine r_sipush C d_X7_init_75 (v := nI 5376) rfl ?_
  refine r_newZ C d_X7_init_78 tw_731 (by decide) (Nat.le_of_ble_eq_true rfl) (Nat.le_of_ble_eq_true rfl) (fun b10 hb10 _ => ?_)
  have ha10 : hup h9 b10 (mcell G mz 10) a = some (oC 6 (mfsI q10 10)) := by rw [hup_n (fun z => by have := M1.2.1; rw [z, hb10] at this; cases this), M1.2.1]
  refine r_putF C CI d_X7_init_80 pf_RX7_39 (fun q9 e9 => by cases e9; rfl) ha10 rfl rfl (Nat.le_of_ble_eq_true rfl) (fs' := mfsI (qs q10 10 b10) 11) rfl ?_
  refine r_eqh (h' := hup (hup h9 b10 (mcell G mz 10)) a (oC 6 (mfsI (qs q10 10 b10) 11))) rfl ?_
  replace N1 := ni_step (q := q10) N1 (by decide) M1.2.2.2.2 hb10
  replace M1 := mi_step M1 (by decide) (by decide) hb10 rfl rfl (e := mcell G mz 10) (fs := mfsI (qs q10 10 b10) 11)
  clear ha10
  revert M1 N1
  generalize hup (hup h9 b10 (mcell G mz 10)) a (oC 6 (mfsI (qs q10 10 b10) 11)) = h10
  generalize qs q10 10 b10 = q11
  intro N1 M1
  clear hb10
  refine r_aload_n C d_X7_init_83 0 rfl ?_
  refine r_sipush C d_X7_init_84 (v := nI 504) rfl ?_
  refine r_newI C d_X7_init_87 tw_46 (by decide) (Nat.le_of_ble_eq_true rfl) (Nat.le_of_ble_eq_true rfl) (fun b11 hb11 _ => ?_)
  have ha11 : hup h10 b11 (mcell G mz 11) a = some (oC 6 (mfsI q11 11)) := by rw [hup_n (fun z => by have := M1.2.1; rw [z, hb11] at this; cases this), M1.2.1]
  refine r_putF C CI d_X7_init_89 pf_RX7_42 (fun q9 e9 => by cases e9; rfl) ha11 rfl rfl (Nat.le_of_ble_eq_true rfl) (fs' := mfsI (qs q11 11 b11) 12) rfl ?_
  refine r_eqh (h' := hup (hup h10 b11 (mcell G mz 11)) a (oC 6 (mfsI (qs q11 11 b11) 12))) rfl ?_
  replace N1 := ni_step (q := q11) N1 (by decide) M1.2.2.2.2 hb11
  replace M1 := mi_step M1 (by decide) (by decide) hb11 rfl rfl (e := mcell G mz 11) (fs := mfsI (qs q11 11 b11) 12)
  clear ha11
  revert M1 N1
  generalize hup (hup h10 b11 (mcell G mz 11)) a (oC 6 (mfsI (qs q11 11 b11) 12)) = h11
  generalize qs q11 11 b11 = q12
  intro N1 M1
  clear hb11
  refine r_aload_n C d_X7_init_92 0 rfl ?_
  refine r_sipush C d_X7_init_93 (v := nI 1008) rfl ?_
  refine r_newJ C d_X7_init_96 tw_79 (by decide) (Nat.le_of_ble_eq_true rfl) (Nat.le_of_ble_eq_true rfl) (fun b12 hb12 _ => ?_)
  have ha12 : hup h11 b12 (mcell G mz 12) a = some (oC 6 (mfsI q12 12)) := by rw [hup_n (fun z => by have := M1.2.1; rw [z, hb12] at this; cases this), M1.2.1]
  refine r_putF C CI d_X7_init_98 pf_RX7_45 (fun q9 e9 => by cases e9; rfl) ha12 rfl rfl (Nat.le_of_ble_eq_true rfl) (fs' := mfsI (qs q12 12 b12) 13) rfl ?_
  refine r_eqh (h' := hup (hup h11 b12 (mcell G mz 12)) a (oC 6 (mfsI (qs q12 12 b12) 13))) rfl ?_
  replace N1 := ni_step (q := q12) N1 (by decide) M1.2.2.2.2 hb12
  replace M1 := mi_step M1 (by decide) (by decide) hb12 rfl rfl (e := mcell G mz 12) (fs := mfsI (qs q12 12 b12) 13)
  clear ha12
  revert M1 N1
  generalize hup (hup h11 b12 (mcell G mz 12)) a (oC 6 (mfsI (qs q12 12 b12) 13)) = h12
  generalize qs q12 12 b12 = q13
  intro N1 M1
  clear hb12
  refine r_aload_n C d_X7_init_101 0 rfl ?_
  refine r_sipush C d_X7_init_102 (v := nI 168) rfl ?_
  refine r_newI C d_X7_init_105 tw_46 (by decide) (Nat.le_of_ble_eq_true rfl) (Nat.le_of_ble_eq_true rfl) (fun b13 hb13 _ => ?_)
  have ha13 : hup h12 b13 (mcell G mz 13) a = some (oC 6 (mfsI q13 13)) := by rw [hup_n (fun z => by have := M1.2.1; rw [z, hb13] at this; cases this), M1.2.1]
  refine r_putF C CI d_X7_init_107 pf_RX7_48 (fun q9 e9 => by cases e9; rfl) ha13 rfl rfl (Nat.le_of_ble_eq_true rfl) (fs' := mfsI (qs q13 13 b13) 14) rfl ?_
  refine r_eqh (h' := hup (hup h12 b13 (mcell G mz 13)) a (oC 6 (mfsI (qs q13 13 b13) 14))) rfl ?_
  replace N1 := ni_step (q := q13) N1 (by decide) M1.2.2.2.2 hb13
  replace M1 := mi_step M1 (by decide) (by decide) hb13 rfl rfl (e := mcell G mz 13) (fs := mfsI (qs q13 13 b13) 14)
  clear ha13
  revert M1 N1
  generalize hup (hup h12 b13 (mcell G mz 13)) a (oC 6 (mfsI (qs q13 13 b13) 14)) = h13
  generalize qs q13 13 b13 = q14
  intro N1 M1
  clear hb13
  refine r_aload_n C d_X7_init_110 0 rfl ?_
  refine r_sipush C d_X7_init_111 (v := nI 168) rfl ?_
  refine r_newI C d_X7_init_114 tw_46 (by decide) (Nat.le_of_ble_eq_true rfl) (Nat.le_of_ble_eq_true rfl) (fun b14 hb14 _ => ?_)
  have ha14 : hup h13 b14 (mcell G mz 14) a = some (oC 6 (mfsI q14 14)) := by rw [hup_n (fun z => by have := M1.2.1; rw [z, hb14] at this; cases this), M1.2.1]
  refine r_putF C CI d_X7_init_116 pf_RX7_51 (fun q9 e9 => by cases e9; rfl) ha14 rfl rfl (Nat.le_of_ble_eq_true rfl) (fs' := mfsI (qs q14 14 b14) 15) rfl ?_
  refine r_eqh (h' := hup (hup h13 b14 (mcell G mz 14)) a (oC 6 (mfsI (qs q14 14 b14) 15))) rfl ?_
  replace N1 := ni_step (q := q14) N1 (by decide) M1.2.2.2.2 hb14
  replace M1 := mi_step M1 (by decide) (by decide) hb14 rfl rfl (e := mcell G mz 14) (fs := mfsI (qs q14 14 b14) 15)
  clear ha14
  revert M1 N1
  generalize hup (hup h13 b14 (mcell G mz 14)) a (oC 6 (mfsI (qs q14 14 b14) 15)) = h14
  generalize qs q14 14 b14 = q15
  intro N1 M1
  clear hb14
  refine r_aload_n C d_X7_init_119 0 rfl ?_
  refine r_sipush C d_X7_init_120 (v := nI 256) rfl ?_
  replace M1 := mi_skip M1 (by decide) rfl rfl
  replace N1 := ni_skip N1 rfl
  replace M1 := mi_skip M1 (by decide) rfl rfl
  replace N1 := ni_skip N1 rfl
  refine r_newZ C d_X7_init_123 tw_731 (by decide) (Nat.le_of_ble_eq_true rfl) (Nat.le_of_ble_eq_true rfl) (fun b17 hb17 _ => ?_)
  have ha17 : hup h14 b17 (mcell G mz 17) a = some (oC 6 (mfsI q15 17)) := by rw [hup_n (fun z => by have := M1.2.1; rw [z, hb17] at this; cases this), M1.2.1]
  refine r_putF C CI d_X7_init_125 pf_RX7_54 (fun q9 e9 => by cases e9; rfl) ha17 rfl rfl (Nat.le_of_ble_eq_true rfl) (fs' := mfsI (qs q15 17 b17) 18) rfl ?_
  refine r_eqh (h' := hup (hup h14 b17 (mcell G mz 17)) a (oC 6 (mfsI (qs q15 17 b17) 18))) rfl ?_
  replace N1 := ni_step (q := q15) N1 (by decide) M1.2.2.2.2 hb17
  replace M1 := mi_step M1 (by decide) (by decide) hb17 rfl rfl (e := mcell G mz 17) (fs := mfsI (qs q15 17 b17) 18)
  clear ha17
  revert M1 N1
  generalize hup (hup h14 b17 (mcell G mz 17)) a (oC 6 (mfsI (qs q15 17 b17) 18)) = h17
  generalize qs q15 17 b17 = q18
  intro N1 M1
  clear hb17
  refine r_aload_n C d_X7_init_128 0 rfl ?_
  refine r_sipush C d_X7_init_129 (v := nI 256) rfl ?_
  refine r_newZ C d_X7_init_132 tw_731 (by decide) (Nat.le_of_ble_eq_true rfl) (Nat.le_of_ble_eq_true rfl) (fun b18 hb18 _ => ?_)
  have ha18 : hup h17 b18 (mcell G mz 18) a = some (oC 6 (mfsI q18 18)) := by rw [hup_n (fun z => by have := M1.2.1; rw [z, hb18] at this; cases this), M1.2.1]
  refine r_putF C CI d_X7_init_134 pf_RX7_57 (fun q9 e9 => by cases e9; rfl) ha18 rfl rfl (Nat.le_of_ble_eq_true rfl) (fs' := mfsI (qs q18 18 b18) 19) rfl ?_
  refine r_eqh (h' := hup (hup h17 b18 (mcell G mz 18)) a (oC 6 (mfsI (qs q18 18 b18) 19))) rfl ?_
  replace N1 := ni_step (q := q18) N1 (by decide) M1.2.2.2.2 hb18
  replace M1 := mi_step M1 (by decide) (by decide) hb18 rfl rfl (e := mcell G mz 18) (fs := mfsI (qs q18 18 b18) 19)
  clear ha18
  revert M1 N1
  generalize hup (hup h17 b18 (mcell G mz 18)) a (oC 6 (mfsI (qs q18 18 b18) 19)) = h18
  generalize qs q18 18 b18 = q19
  intro N1 M1
  clear hb18
  refine r_aload_n C d_X7_init_137 0 rfl ?_
  refine r_iconst C d_X7_init_138 (v := nI 3) rfl ?_
  refine r_newI C d_X7_init_139 tw_46 (by decide) (Nat.le_of_ble_eq_true rfl) (Nat.le_of_ble_eq_true rfl) (fun b19 hb19 _ => ?_)
  have ha19 : hup h18 b19 (mcell G mz 19) a = some (oC 6 (mfsI q19 19)) := by rw [hup_n (fun z => by have := M1.2.1; rw [z, hb19] at this; cases this), M1.2.1]
  refine r_putF C CI d_X7_init_141 pf_RX7_60 (fun q9 e9 => by cases e9; rfl) ha19 rfl rfl (Nat.le_of_ble_eq_true rfl) (fs' := mfsI (qs q19 19 b19) 20) rfl ?_
  refine r_eqh (h' := hup (hup h18 b19 (mcell G mz 19)) a (oC 6 (mfsI (qs q19 19 b19) 20))) rfl ?_
  replace N1 := ni_step (q := q19) N1 (by decide) M1.2.2.2.2 hb19
  replace M1 := mi_step M1 (by decide) (by decide) hb19 rfl rfl (e := mcell G mz 19) (fs := mfsI (qs q19 19 b19) 20)
  clear ha19
  revert M1 N1
  generalize hup (hup h18 b19 (mcell G mz 19)) a (oC 6 (mfsI (qs q19 19 b19) 20)) = h19
  generalize qs q19 19 b19 = q20
  intro N1 M1
  clear hb19
  refine r_aload_n C d_X7_init_144 0 rfl ?_
  refine r_bipush C d_X7_init_145 (v := nI 8) rfl ?_
  refine r_newI C d_X7_init_147 tw_46 (by decide) (Nat.le_of_ble_eq_true rfl) (Nat.le_of_ble_eq_true rfl) (fun b20 hb20 _ => ?_)
  have ha20 : hup h19 b20 (mcell G mz 20) a = some (oC 6 (mfsI q20 20)) := by rw [hup_n (fun z => by have := M1.2.1; rw [z, hb20] at this; cases this), M1.2.1]
  refine r_putF C CI d_X7_init_149 pf_RX7_63 (fun q9 e9 => by cases e9; rfl) ha20 rfl rfl (Nat.le_of_ble_eq_true rfl) (fs' := mfsI (qs q20 20 b20) 21) rfl ?_
  refine r_eqh (h' := hup (hup h19 b20 (mcell G mz 20)) a (oC 6 (mfsI (qs q20 20 b20) 21))) rfl ?_
  replace N1 := ni_step (q := q20) N1 (by decide) M1.2.2.2.2 hb20
  replace M1 := mi_step M1 (by decide) (by decide) hb20 rfl rfl (e := mcell G mz 20) (fs := mfsI (qs q20 20 b20) 21)
  clear ha20
  revert M1 N1
  generalize hup (hup h19 b20 (mcell G mz 20)) a (oC 6 (mfsI (qs q20 20 b20) 21)) = h20
  generalize qs q20 20 b20 = q21
  intro N1 M1
  clear hb20
  refine r_aload_n C d_X7_init_152 0 rfl ?_
  refine r_sipush C d_X7_init_153 (v := nI 320) rfl ?_
  refine r_newI C d_X7_init_156 tw_46 (by decide) (Nat.le_of_ble_eq_true rfl) (Nat.le_of_ble_eq_true rfl) (fun b21 hb21 _ => ?_)
  have ha21 : hup h20 b21 (mcell G mz 21) a = some (oC 6 (mfsI q21 21)) := by rw [hup_n (fun z => by have := M1.2.1; rw [z, hb21] at this; cases this), M1.2.1]
  refine r_putF C CI d_X7_init_158 pf_RX7_66 (fun q9 e9 => by cases e9; rfl) ha21 rfl rfl (Nat.le_of_ble_eq_true rfl) (fs' := mfsI (qs q21 21 b21) 22) rfl ?_
  refine r_eqh (h' := hup (hup h20 b21 (mcell G mz 21)) a (oC 6 (mfsI (qs q21 21 b21) 22))) rfl ?_
  replace N1 := ni_step (q := q21) N1 (by decide) M1.2.2.2.2 hb21
  replace M1 := mi_step M1 (by decide) (by decide) hb21 rfl rfl (e := mcell G mz 21) (fs := mfsI (qs q21 21 b21) 22)
  clear ha21
  revert M1 N1
  generalize hup (hup h20 b21 (mcell G mz 21)) a (oC 6 (mfsI (qs q21 21 b21) 22)) = h21
  generalize qs q21 21 b21 = q22
  intro N1 M1
  clear hb21
  refine r_aload_n C d_X7_init_161 0 rfl ?_
  refine r_bipush C d_X7_init_162 (v := nI 100) rfl ?_
  refine r_newI C d_X7_init_164 tw_46 (by decide) (Nat.le_of_ble_eq_true rfl) (Nat.le_of_ble_eq_true rfl) (fun b22 hb22 _ => ?_)
  have ha22 : hup h21 b22 (mcell G mz 22) a = some (oC 6 (mfsI q22 22)) := by rw [hup_n (fun z => by have := M1.2.1; rw [z, hb22] at this; cases this), M1.2.1]
  refine r_putF C CI d_X7_init_166 pf_RX7_69 (fun q9 e9 => by cases e9; rfl) ha22 rfl rfl (Nat.le_of_ble_eq_true rfl) (fs' := mfsI (qs q22 22 b22) 23) rfl ?_
  refine r_eqh (h' := hup (hup h21 b22 (mcell G mz 22)) a (oC 6 (mfsI (qs q22 22 b22) 23))) rfl ?_
  replace N1 := ni_step (q := q22) N1 (by decide) M1.2.2.2.2 hb22
  replace M1 := mi_step M1 (by decide) (by decide) hb22 rfl rfl (e := mcell G mz 22) (fs := mfsI (qs q22 22 b22) 23)
  clear ha22
  revert M1 N1
  generalize hup (hup h21 b22 (mcell G mz 22)) a (oC 6 (mfsI (qs q22 22 b22) 23)) = h22
  generalize qs q22 22 b22 = q23
  intro N1 M1
  clear hb22
  have M2 := mi_mo M1
  have M3 := M1.2.2.2.2
  have M4 := M1.1
  refine r_iconst C d_X7_init_169 (v := nI 0) rfl ?_
  refine r_istore_n C d_X7_init_170 (lv' := [(1, .int (nI 0)), (0, .ref a)]) (by decide) rfl ?_
  have hnr : ∀ b e, b ≠ a → h b = some e → b ≠ q23 20 := N1 20 (by decide) (by decide)
  have loop : ∀ (fuel : Nat) (j : Nat) (g : hp), j ≤ 8 → 8 - j < fuel → mo G q23 (zj j) g → (∀ b e, b ≠ a → h b = some e → g b = some e) → VV G x 20 8655 g 171 [(1, .int (nI j)), (0, .ref a)] [] := by
    intro fuel
    induction fuel with
    | zero => intro j g _ f9; exact absurd f9 (Nat.not_lt_zero _)
    | succ fuel ih =>
      intro j g hj f9 Mg Fg
      refine r_iload_n C d_X7_init_171 0 rfl ?_
      refine r_bipush C d_X7_init_172 (v := nI 8) rfl ?_
      refine rn_icmp_ge C d_X7_init_174 (tgt := 190) rfl (by omega) (by omega) (fun c => ?_) (fun c => ?_)
      · refine r_vret C A TY d_X7_init_190 (Nat.le_of_ble_eq_true rfl) (Nat.le_of_ble_eq_true rfl) ⟨rfl, q23, M4, ?_, Fg⟩
        rw [show j = 8 by omega] at Mg; exact Mg
      · refine r_aload_n C d_X7_init_177 1 rfl ?_
        refine r_get C d_X7_init_178 fd_RX7_63 (v := .ref (q23 20)) (by rw [← M4]; exact Mg.1) rfl ?_
        refine r_iload_n C d_X7_init_181 0 rfl ?_
        refine r_iconst C d_X7_init_182 (v := -1) rfl ?_
        refine r_iast (f := fun i => mI (zj j) 20 i) C d_X7_init_183 (by rw [Mg.2.1 20 (by omega) (by decide)]; rfl) (show j < 8 by omega) (by decide) ?_
        rw [show aI G 8 (upd (fun i => mI (zj j) 20 i) j (-1)) = mcell G (uI (zj j) 20 j (-1)) 20 from (mc_I (G := G) (S := zj j) (k := 20) (i := j) (v := -1) rfl).symm]
        refine r_iinc C d_X7_init_184 (v := nI (j + 1)) (lv' := [(1, .int (nI (j + 1))), (0, .ref a)]) 0 rfl (nI_inc _ rfl) (by decide) rfl ?_
        refine r_goto C d_X7_init_187 (tgt := 171) rfl ?_
        refine ih (j + 1) _ (by omega) (by omega) ?_ (fun b e hb he => by rw [hup_n (hnr b e hb he)]; exact Fg b e hb he)
        rw [← zj_step]; exact mo_put Mg (k := 20) (by omega) (by decide) rfl (fun j _ _ e => mc_oI e)
  exact loop _ 0 _ (by omega) (Nat.lt_succ_self _) (by rw [show zj 0 = mz from mS_ext (fun _ => rfl) (fun _ _ => rfl) (fun _ _ => rfl) (fun k i => by unfold zj; rw [mI_sI]; split; rfl; rfl)]; exact M2) M3
