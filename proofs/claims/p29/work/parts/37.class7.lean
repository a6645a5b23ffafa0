theorem tw_62 : (Jvm.Cond.fieldLink "Corpusline" (93 : Nat) "Corpusline$Side" "partners" "[J") ∈ TB := tb_of 62 (by decide +kernel) rfl
theorem tw_84 : (Jvm.Cond.fieldLink "Corpusline$Result" (9 : Nat) "Corpusline$Result" "isThere" "Z") ∈ TB := tb_of 84 (by decide +kernel) rfl
theorem tw_86 : (Jvm.Cond.fieldLink "Corpusline$Result" (15 : Nat) "Corpusline$Result" "side" "I") ∈ TB := tb_of 86 (by decide +kernel) rfl
theorem tw_98 : (Jvm.Cond.fieldLink "Corpusline" (15 : Nat) "Corpusline" "pairCount" "I") ∈ TB := tb_of 98 (by decide +kernel) rfl
theorem tw_105 : (Jvm.Cond.fieldLink "Corpusline" (47 : Nat) "Corpusline" "groupCounts" "[I") ∈ TB := tb_of 105 (by decide +kernel) rfl
theorem tw_293 : (Jvm.Cond.methodLink "Corpusline" (84 : Nat) ({ cls := "Corpusline$Side", name := "isSentence", desc := "(I)Z" } : Jvm.MethodName)) ∈ TB := tb_of 293 (by decide +kernel) rfl
theorem tw_294 : (Jvm.Cond.instanceMethod ({ cls := "Corpusline$Side", name := "isSentence", desc := "(I)Z" } : Jvm.MethodName)) ∈ TB := tb_of 294 (by decide +kernel) rfl
theorem tw_295 : (Jvm.Cond.selects "Corpusline$Side" ({ cls := "Corpusline$Side", name := "isSentence", desc := "(I)Z" } : Jvm.MethodName) ({ cls := "Corpusline$Side", name := "isSentence", desc := "(I)Z" } : Jvm.MethodName)) ∈ TB := tb_of 295 (by decide +kernel) rfl
theorem tw_296 : (Jvm.Cond.code ({ cls := "Corpusline$Side", name := "isSentence", desc := "(I)Z" } : Jvm.MethodName) prog_5_method_4_code (2 : Nat) (Option.some Jvm.ClassFile.FieldType.boolean)) ∈ TB := tb_of 296 (by decide +kernel) rfl
theorem fd_RX6_15 : fdOk RX6 15 5 1 := ⟨_, _, _, rfl, by decide, cw_5, tw_98, rfl⟩
theorem fd_RX6_47 : fdOk RX6 47 5 8 := ⟨_, _, _, rfl, by decide, cw_5, tw_105, rfl⟩
theorem fd_RX6_93 : fdOk RX6 93 2 6 := ⟨_, _, _, rfl, by decide, cw_2, tw_62, rfl⟩
theorem pf_RX1_9 : pfOk RX1 9 1 0 .boolean false := ⟨_, _, _, tyX1, rfl, by decide, cw_1, tw_84, rfl, tyX1_ok, nmX1, rfl, by decide +kernel⟩
theorem pf_RX1_15 : pfOk RX1 15 1 1 .int false := ⟨_, _, _, tyX1, rfl, by decide, cw_1, tw_86, rfl, tyX1_ok, nmX1, rfl, by decide +kernel⟩
theorem pf_RX6_15 : pfOk RX6 15 5 1 .int false := ⟨_, _, _, tyX6, rfl, by decide, cw_5, tw_98, rfl, tyX6_ok, nmX6, rfl, by decide +kernel⟩
theorem ok_RX6_84 : okV RX6 84 yX3_isSentence cX3_isSentence 2 (Option.some Jvm.ClassFile.FieldType.boolean) 1 := ⟨tw_293, tw_294, tw_295, tw_3, tw_296, ⟨by decide, by decide, by decide +kernel⟩⟩
/-- the class's pairs -/
def pInv (g : mS) : Prop := ∀ i, i < 80 → mN g 53 i < 1099511627776
def tAl2 (g : mS) (a b : Nat) : mS := if mN g 53 (40 * 0 + a) / 2 ^ b % 2 = 1 then g else uK (uN (uN g 53 (40 * 0 + a) (mN g 53 (40 * 0 + a) ||| 1 * 2 ^ b)) 53 (40 * 1 + b) (mN g 53 (40 * 1 + b) ||| 1 * 2 ^ a)) 40 (mK g 40 + 1)
theorem cAlign_0 {g : mS} {a b : Int32} (h1 : isSen g 0 a = true) (h2 : isSen g 1 b = true) : cAlign g a b = 0 := if_pos (by
  show (isSen g 0 a && isSen g 1 b) = true
  rw [h1, h2]; rfl)
theorem cAlign_1 {g : mS} {a b : Int32} (h : isSen g 0 a = false ∨ isSen g 1 b = false) : cAlign g a b = 1 := if_neg (fun z => by
  replace z : (isSen g 0 a && isSen g 1 b) = true := z
  rw [Bool.and_eq_true] at z
  rcases h with h | h
  · rw [h] at z; cases z.1
  · rw [h] at z; cases z.2)
def beF (g : mS) (r k : Nat) : Nat → Nat := fun z => if 40 * r ≤ z ∧ z < 40 * r + k then 0 else mN g 21 z
def beS (g : mS) (r s k : Nat) : mS := sN (uN (uB g 32 r true) 54 r s) 21 (beF g r k)
def dl_X6_align : List (Nat × Instr × Nat) := [(0, .aload_n 0, 1), (1, .getfield 11, 3), (4, .iconst 0, 1), (5, .aaload, 1), (6, .astore_n 3, 1), (7, .aload_n 0, 1), (8, .getfield 11, 3), (11, .iconst 1, 1), (12, .aaload, 1), (13, .astore 4, 2), (15, .aload_n 3, 1), (16, .iload_n 1, 1), (17, .invokevirtual 84, 3), (20, .ifCond .eq 12, 3), (23, .aload 4, 2), (25, .iload_n 2, 1), (26, .invokevirtual 84, 3), (29, .ifCond .ne 13, 3), (32, .new 88, 3), (35, .dup, 1), (36, .ldc 90, 2), (38, .invokespecial 92, 3), (41, .athrow, 1), (42, .aload_n 3, 1), (43, .getfield 93, 3), (46, .iload_n 1, 1), (47, .laload, 1), (48, .iload_n 2, 1), (49, .lushr, 1), (50, .lconst 1, 1), (51, .land, 1), (52, .lconst 0, 1), (53, .lcmp, 1), (54, .ifCond .ne 38, 3), (57, .aload_n 3, 1), (58, .getfield 93, 3), (61, .iload_n 1, 1), (62, .dup2, 1), (63, .laload, 1), (64, .lconst 1, 1), (65, .iload_n 2, 1), (66, .lshl, 1), (67, .lor, 1), (68, .lastore, 1), (69, .aload 4, 2), (71, .getfield 93, 3), (74, .iload_n 2, 1), (75, .dup2, 1), (76, .laload, 1), (77, .lconst 1, 1), (78, .iload_n 1, 1), (79, .lshl, 1), (80, .lor, 1), (81, .lastore, 1), (82, .aload_n 0, 1), (83, .dup, 1), (84, .getfield 15, 3), (87, .iconst 1, 1), (88, .iadd, 1), (89, .putfield 15, 3), (92, .aload_n 0, 1), (93, .getfield 15, 3), (96, .ireturn, 1)]
theorem dc_X6_align : dnL cX6_align dl_X6_align = true := by decide +kernel
theorem d_X6_align_0 : dn cX6_align 0 (.aload_n 0) 1 1 := dnAt dc_X6_align 0 rfl rfl
theorem d_X6_align_1 : dn cX6_align 1 (.getfield 11) 3 4 := dnAt dc_X6_align 1 rfl rfl
theorem d_X6_align_4 : dn cX6_align 4 (.iconst 0) 1 5 := dnAt dc_X6_align 2 rfl rfl
theorem d_X6_align_5 : dn cX6_align 5 (.aaload) 1 6 := dnAt dc_X6_align 3 rfl rfl
theorem d_X6_align_6 : dn cX6_align 6 (.astore_n 3) 1 7 := dnAt dc_X6_align 4 rfl rfl
theorem d_X6_align_7 : dn cX6_align 7 (.aload_n 0) 1 8 := dnAt dc_X6_align 5 rfl rfl
theorem d_X6_align_8 : dn cX6_align 8 (.getfield 11) 3 11 := dnAt dc_X6_align 6 rfl rfl
theorem d_X6_align_11 : dn cX6_align 11 (.iconst 1) 1 12 := dnAt dc_X6_align 7 rfl rfl
theorem d_X6_align_12 : dn cX6_align 12 (.aaload) 1 13 := dnAt dc_X6_align 8 rfl rfl
theorem d_X6_align_13 : dn cX6_align 13 (.astore 4) 2 15 := dnAt dc_X6_align 9 rfl rfl
theorem d_X6_align_15 : dn cX6_align 15 (.aload_n 3) 1 16 := dnAt dc_X6_align 10 rfl rfl
theorem d_X6_align_16 : dn cX6_align 16 (.iload_n 1) 1 17 := dnAt dc_X6_align 11 rfl rfl
theorem d_X6_align_17 : dn cX6_align 17 (.invokevirtual 84) 3 20 := dnAt dc_X6_align 12 rfl rfl
theorem d_X6_align_20 : dn cX6_align 20 (.ifCond .eq 12) 3 23 := dnAt dc_X6_align 13 rfl rfl
theorem d_X6_align_23 : dn cX6_align 23 (.aload 4) 2 25 := dnAt dc_X6_align 14 rfl rfl
theorem d_X6_align_25 : dn cX6_align 25 (.iload_n 2) 1 26 := dnAt dc_X6_align 15 rfl rfl
theorem d_X6_align_26 : dn cX6_align 26 (.invokevirtual 84) 3 29 := dnAt dc_X6_align 16 rfl rfl
theorem d_X6_align_29 : dn cX6_align 29 (.ifCond .ne 13) 3 32 := dnAt dc_X6_align 17 rfl rfl
theorem d_X6_align_32 : dn cX6_align 32 (.new 88) 3 35 := dnAt dc_X6_align 18 rfl rfl
theorem d_X6_align_35 : dn cX6_align 35 (.dup) 1 36 := dnAt dc_X6_align 19 rfl rfl
theorem d_X6_align_36 : dn cX6_align 36 (.ldc 90) 2 38 := dnAt dc_X6_align 20 rfl rfl
theorem d_X6_align_38 : dn cX6_align 38 (.invokespecial 92) 3 41 := dnAt dc_X6_align 21 rfl rfl
theorem d_X6_align_41 : dn cX6_align 41 (.athrow) 1 42 := dnAt dc_X6_align 22 rfl rfl
theorem d_X6_align_42 : dn cX6_align 42 (.aload_n 3) 1 43 := dnAt dc_X6_align 23 rfl rfl
theorem d_X6_align_43 : dn cX6_align 43 (.getfield 93) 3 46 := dnAt dc_X6_align 24 rfl rfl
theorem d_X6_align_46 : dn cX6_align 46 (.iload_n 1) 1 47 := dnAt dc_X6_align 25 rfl rfl
theorem d_X6_align_47 : dn cX6_align 47 (.laload) 1 48 := dnAt dc_X6_align 26 rfl rfl
theorem d_X6_align_48 : dn cX6_align 48 (.iload_n 2) 1 49 := dnAt dc_X6_align 27 rfl rfl
theorem d_X6_align_49 : dn cX6_align 49 (.lushr) 1 50 := dnAt dc_X6_align 28 rfl rfl
theorem d_X6_align_50 : dn cX6_align 50 (.lconst 1) 1 51 := dnAt dc_X6_align 29 rfl rfl
theorem d_X6_align_51 : dn cX6_align 51 (.land) 1 52 := dnAt dc_X6_align 30 rfl rfl
theorem d_X6_align_52 : dn cX6_align 52 (.lconst 0) 1 53 := dnAt dc_X6_align 31 rfl rfl
theorem d_X6_align_53 : dn cX6_align 53 (.lcmp) 1 54 := dnAt dc_X6_align 32 rfl rfl
theorem d_X6_align_54 : dn cX6_align 54 (.ifCond .ne 38) 3 57 := dnAt dc_X6_align 33 rfl rfl
theorem d_X6_align_57 : dn cX6_align 57 (.aload_n 3) 1 58 := dnAt dc_X6_align 34 rfl rfl
theorem d_X6_align_58 : dn cX6_align 58 (.getfield 93) 3 61 := dnAt dc_X6_align 35 rfl rfl
theorem d_X6_align_61 : dn cX6_align 61 (.iload_n 1) 1 62 := dnAt dc_X6_align 36 rfl rfl
theorem d_X6_align_62 : dn cX6_align 62 (.dup2) 1 63 := dnAt dc_X6_align 37 rfl rfl
theorem d_X6_align_63 : dn cX6_align 63 (.laload) 1 64 := dnAt dc_X6_align 38 rfl rfl
theorem d_X6_align_64 : dn cX6_align 64 (.lconst 1) 1 65 := dnAt dc_X6_align 39 rfl rfl
theorem d_X6_align_65 : dn cX6_align 65 (.iload_n 2) 1 66 := dnAt dc_X6_align 40 rfl rfl
theorem d_X6_align_66 : dn cX6_align 66 (.lshl) 1 67 := dnAt dc_X6_align 41 rfl rfl
theorem d_X6_align_67 : dn cX6_align 67 (.lor) 1 68 := dnAt dc_X6_align 42 rfl rfl
theorem d_X6_align_68 : dn cX6_align 68 (.lastore) 1 69 := dnAt dc_X6_align 43 rfl rfl
theorem d_X6_align_69 : dn cX6_align 69 (.aload 4) 2 71 := dnAt dc_X6_align 44 rfl rfl
theorem d_X6_align_71 : dn cX6_align 71 (.getfield 93) 3 74 := dnAt dc_X6_align 45 rfl rfl
theorem d_X6_align_74 : dn cX6_align 74 (.iload_n 2) 1 75 := dnAt dc_X6_align 46 rfl rfl
theorem d_X6_align_75 : dn cX6_align 75 (.dup2) 1 76 := dnAt dc_X6_align 47 rfl rfl
theorem d_X6_align_76 : dn cX6_align 76 (.laload) 1 77 := dnAt dc_X6_align 48 rfl rfl
theorem d_X6_align_77 : dn cX6_align 77 (.lconst 1) 1 78 := dnAt dc_X6_align 49 rfl rfl
theorem d_X6_align_78 : dn cX6_align 78 (.iload_n 1) 1 79 := dnAt dc_X6_align 50 rfl rfl
theorem d_X6_align_79 : dn cX6_align 79 (.lshl) 1 80 := dnAt dc_X6_align 51 rfl rfl
theorem d_X6_align_80 : dn cX6_align 80 (.lor) 1 81 := dnAt dc_X6_align 52 rfl rfl
theorem d_X6_align_81 : dn cX6_align 81 (.lastore) 1 82 := dnAt dc_X6_align 53 rfl rfl
theorem d_X6_align_82 : dn cX6_align 82 (.aload_n 0) 1 83 := dnAt dc_X6_align 54 rfl rfl
theorem d_X6_align_83 : dn cX6_align 83 (.dup) 1 84 := dnAt dc_X6_align 55 rfl rfl
theorem d_X6_align_84 : dn cX6_align 84 (.getfield 15) 3 87 := dnAt dc_X6_align 56 rfl rfl
theorem d_X6_align_87 : dn cX6_align 87 (.iconst 1) 1 88 := dnAt dc_X6_align 57 rfl rfl
theorem d_X6_align_88 : dn cX6_align 88 (.iadd) 1 89 := dnAt dc_X6_align 58 rfl rfl
theorem d_X6_align_89 : dn cX6_align 89 (.putfield 15) 3 92 := dnAt dc_X6_align 59 rfl rfl
theorem d_X6_align_92 : dn cX6_align 92 (.aload_n 0) 1 93 := dnAt dc_X6_align 60 rfl rfl
theorem d_X6_align_93 : dn cX6_align 93 (.getfield 15) 3 96 := dnAt dc_X6_align 61 rfl rfl
theorem d_X6_align_96 : dn cX6_align 96 (.ireturn) 1 97 := dnAt dc_X6_align 62 rfl rfl
set_option maxHeartbeats 4000000 in
set_option maxRecDepth 100000 in
theorem k_align {l : Launch} {G : eG} {ad : Nat → Nat → Nat} {h : hp} {g : mS} {a b : Int32} (hlf : l.stackTraces = false) (hm : co G ad g h) (I : mInv g) (P : pInv g) : kX l G ad h yX6_align cX6_align 5 (Option.some Jvm.ClassFile.FieldType.int) { frames := 6, cells := 1, slots := 6, locals := 90 } [.ref (ad 0 0), .int a, .int b] (fun v9 g9 _ => v9 = some (.int (nI (mK (tAl2 g (tn a) (tn b)) 40))) ∧ g9 = tAl2 g (tn a) (tn b) ∧ cAlign g a b = 0) (fun E9 g9 => (E9 = "java/lang/IndexOutOfBoundsException" ∧ cAlign g a b = 1) ∧ g9 = g) := by
  refine kX.of hlf hm (by decide) (Nat.le_of_ble_eq_true rfl) ?_
  intro x C A TY X
  show VC G x ad h g 0 0 0 [(0, .ref (ad 0 0)), (1, .int a), (2, .int b)] []
  refine c_aload_n C d_X6_align_0 0 rfl ?_
  refine c_get C d_X6_align_1 fd_RX6_11 (k := 0) (i' := 0) rfl rfl (v := .ref (ad 1 0)) rfl ?_
  refine c_iconst C d_X6_align_4 (v := (nI 0)) rfl ?_
  refine c_aSide C d_X6_align_5 (s := 0) (by omega) ?_
  refine c_astore_n C d_X6_align_6 (lv' := [(3, .ref (ad 10 0)), (0, .ref (ad 0 0)), (1, .int a), (2, .int b)]) (by decide) rfl ?_
  refine c_aload_n C d_X6_align_7 1 rfl ?_
  refine c_get C d_X6_align_8 fd_RX6_11 (k := 0) (i' := 0) rfl rfl (v := .ref (ad 1 0)) rfl ?_
  refine c_iconst C d_X6_align_11 (v := (nI 1)) rfl ?_
  refine c_aSide C d_X6_align_12 (s := 1) (by omega) ?_
  refine c_astore C d_X6_align_13 (lv' := [(4, .ref (ad 10 1)), (3, .ref (ad 10 0)), (0, .ref (ad 0 0)), (1, .int a), (2, .int b)]) (by decide) rfl ?_
  refine c_aload_n C d_X6_align_15 1 rfl ?_
  refine c_iload_n C d_X6_align_16 3 rfl ?_
  refine k_callV C d_X6_align_17 ok_RX6_84 (k := 10) (i' := 0) (fun l h hm hf => k_isSentence hm I (by omega)) rfl rfl rfl rfl (rest := []) rfl rfl (Nat.le_of_ble_eq_true rfl) ⟨⟨by decide, by decide⟩, Nat.le_of_ble_eq_true rfl, Nat.le_of_ble_eq_true rfl⟩ (fun v9 g9 hq1 e9 F1 => ?_)
  obtain ⟨rfl, z1⟩ := e9
  refine c_eq z1 ?_
  refine c_base F1 ?_
  show VC G x ad h g 0 0 20 [(4, .ref (ad 10 1)), (3, .ref (ad 10 0)), (0, .ref (ad 0 0)), (1, .int a), (2, .int b)] [.int (bI (isSen g 0 a))]
  refine cb_if_eq C d_X6_align_20 (tgt := 32) rfl (fun c_20 => ?_) (fun c_20 => ?_)
  · skip
    exact k_throw C X cfr_rf d_X6_align_32 d_X6_align_35 d_X6_align_36 d_X6_align_38 d_X6_align_41 th_88 (text := "no such sentence") (by decide) ⟨by decide, Nat.le_of_ble_eq_true rfl, Nat.le_of_ble_eq_true rfl, Nat.le_of_ble_eq_true rfl⟩ (⟨⟨rfl, cAlign_1 (Or.inl c_20)⟩, rfl⟩)
  · skip
    refine c_aload C d_X6_align_23 0 rfl ?_
    refine c_iload_n C d_X6_align_25 4 rfl ?_
    refine k_callV C d_X6_align_26 ok_RX6_84 (k := 10) (i' := 1) (fun l h hm hf => k_isSentence hm I (by omega)) rfl rfl rfl rfl (rest := []) rfl rfl (Nat.le_of_ble_eq_true rfl) ⟨⟨by decide, by decide⟩, Nat.le_of_ble_eq_true rfl, Nat.le_of_ble_eq_true rfl⟩ (fun v9 g9 hq2 e9 F2 => ?_)
    obtain ⟨rfl, z2⟩ := e9
    refine c_eq z2 ?_
    refine c_base F2 ?_
    show VC G x ad h g 0 0 29 [(4, .ref (ad 10 1)), (3, .ref (ad 10 0)), (0, .ref (ad 0 0)), (1, .int a), (2, .int b)] [.int (bI (isSen g 1 b))]
    refine cb_if_ne C d_X6_align_29 (tgt := 42) rfl (fun c_29 => ?_) (fun c_29 => ?_)
    · skip
      have join_92 : VC G x ad h (tAl2 g (tn a) (tn b)) 0 0 92 [(4, .ref (ad 10 1)), (3, .ref (ad 10 0)), (0, .ref (ad 0 0)), (1, .int (nI (tn a))), (2, .int (nI (tn b)))] [] := by
        refine c_aload_n C d_X6_align_92 2 rfl ?_
        refine c_get C d_X6_align_93 fd_RX6_15 (k := 0) (i' := 0) rfl rfl (v := .int (nI (mK (tAl2 g (tn a) (tn b)) 40))) rfl ?_
        exact k_iret C A cfr_rf TY d_X6_align_96 rfl (Nat.le_of_ble_eq_true rfl) (Nat.le_of_ble_eq_true rfl) (fun h9 F9 => ⟨rfl, rfl, cAlign_0 c_20 c_29⟩)
      obtain ⟨j1, s1, u1⟩ := isSen_of I (by decide) c_20
      obtain ⟨j2, s2, u2⟩ := isSen_of I (by decide) c_29
      have p1 := P (40 * 0 + tn a) (by omega)
      have p2 := P (40 * 1 + tn b) (by omega)
      refine c_lve (lv' := [(4, .ref (ad 10 1)), (3, .ref (ad 10 0)), (0, .ref (ad 0 0)), (1, .int (nI (tn a))), (2, .int (nI (tn b)))]) (by rw [← j1, ← j2]) ?_
      refine c_aload_n C d_X6_align_42 1 rfl ?_
      refine c_get C d_X6_align_43 fd_RX6_93 (k := 10) (i' := 0) rfl rfl (v := .ref (ad 14 0)) rfl ?_
      refine c_iload_n C d_X6_align_46 3 rfl ?_
      refine c_lald C d_X6_align_47 (i := 0) (by omega) (by show _ < 40; omega) ?_
      refine c_iload_n C d_X6_align_48 4 rfl ?_
      refine cn_lushr C d_X6_align_49 (by omega) (by omega) ?_
      refine c_lconst C d_X6_align_50 (v := (lN 1)) rfl ?_
      refine cn_land C d_X6_align_51 ?_
      refine c_st (st' := [.long (lN (mN g 53 (40 * 0 + tn a) / 2 ^ (tn b) % 2))]) (by rw [and1]) ?_
      refine c_lconst C d_X6_align_52 (v := (lN 0)) rfl ?_
      refine cn_lcmp C d_X6_align_53 (by omega) (by decide) ?_
      refine c_if_ne C d_X6_align_54 (tgt := 92) rfl (fun c_54 => ?_) (fun c_54 => ?_)
      · skip
        refine c_eq (g' := tAl2 g (tn a) (tn b)) (by rw [tAl2, if_pos (by have h9 := mt (lcmp_0 (by omega) (by decide)).mpr c_54; omega)]) ?_
        exact join_92  
      · skip
        refine c_aload_n C d_X6_align_57 1 rfl ?_
        refine c_get C d_X6_align_58 fd_RX6_93 (k := 10) (i' := 0) rfl rfl (v := .ref (ad 14 0)) rfl ?_
        refine c_iload_n C d_X6_align_61 3 rfl ?_
        refine c_dup2 C d_X6_align_62 rfl rfl ?_
        refine c_lald C d_X6_align_63 (i := 0) (by omega) (by show _ < 40; omega) ?_
        refine c_lconst C d_X6_align_64 (v := (lN 1)) rfl ?_
        refine c_iload_n C d_X6_align_65 4 rfl ?_
        refine cn_lshl C d_X6_align_66 (by omega) ?_
        refine cn_lor C d_X6_align_67 ?_
        refine c_last C d_X6_align_68 (i := 0) (v := (mN g 53 (40 * 0 + (tn a))) ||| (1 * 2 ^ (tn b))) (by omega) (by show _ < 40; omega) ?_
        refine c_aload C d_X6_align_69 0 rfl ?_
        refine c_get C d_X6_align_71 fd_RX6_93 (k := 10) (i' := 1) rfl rfl (v := .ref (ad 14 1)) rfl ?_
        refine c_iload_n C d_X6_align_74 4 rfl ?_
        refine c_dup2 C d_X6_align_75 rfl rfl ?_
        refine c_lald C d_X6_align_76 (i := 1) (by omega) (by show _ < 40; omega) ?_
        refine c_st (st' := [.long (lN (mN g 53 (40 * 1 + tn b))), .int (nI (tn b)), .ref (ad 14 1)]) (by rw [mN_uN, if_neg (by omega)]) ?_
        refine c_lconst C d_X6_align_77 (v := (lN 1)) rfl ?_
        refine c_iload_n C d_X6_align_78 3 rfl ?_
        refine cn_lshl C d_X6_align_79 (by omega) ?_
        refine cn_lor C d_X6_align_80 ?_
        refine c_last C d_X6_align_81 (i := 1) (v := (mN g 53 (40 * 1 + tn b)) ||| (1 * 2 ^ (tn a))) (by omega) (by show _ < 40; omega) ?_
        refine c_aload_n C d_X6_align_82 2 rfl ?_
        refine c_dup C d_X6_align_83 rfl ?_
        refine c_get C d_X6_align_84 fd_RX6_15 (k := 0) (i' := 0) rfl rfl (v := .int (nI (mK (uN (uN g 53 (40 * 0 + (tn a)) ((mN g 53 (40 * 0 + (tn a))) ||| (1 * 2 ^ (tn b)))) 53 (40 * 1 + (tn b)) ((mN g 53 (40 * 1 + tn b)) ||| (1 * 2 ^ (tn a)))) 40))) rfl ?_
        refine c_st (st' := [.int (nI (mK g 40)), .ref (ad 0 0)]) (by first | rfl | simp only [mN_uN, mB_uB, mK_uK, and_self, if_true]) ?_
        refine c_iconst C d_X6_align_87 (v := (nI 1)) rfl ?_
        refine cn_iadd C d_X6_align_88 ?_
        refine c_put C d_X6_align_89 pf_RX6_15 (k := 0) (i' := 0) (g' := uK (uN (uN g 53 (40 * 0 + (tn a)) ((mN g 53 (40 * 0 + (tn a))) ||| (1 * 2 ^ (tn b)))) 53 (40 * 1 + (tn b)) ((mN g 53 (40 * 1 + tn b)) ||| (1 * 2 ^ (tn a)))) 40 ((mK g 40) + 1)) rfl rfl rfl rfl (Nat.le_of_ble_eq_true rfl) rfl (rfl) (oth_K (by decide) rfl) ?_
        refine c_eq (g' := tAl2 g (tn a) (tn b)) (by rw [tAl2, if_neg (by have h9 := (lcmp_0 (by omega) (by decide)).mp (Classical.not_not.mp c_54); omega)]) ?_
        exact join_92  
    · skip
      exact k_throw C X cfr_rf d_X6_align_32 d_X6_align_35 d_X6_align_36 d_X6_align_38 d_X6_align_41 th_88 (text := "no such sentence") (by decide) ⟨by decide, Nat.le_of_ble_eq_true rfl, Nat.le_of_ble_eq_true rfl, Nat.le_of_ble_eq_true rfl⟩ (⟨⟨rfl, cAlign_1 (Or.inr c_29)⟩, rfl⟩)
def dl_X1_begin : List (Nat × Instr × Nat) := [(0, .aload_n 0, 1), (1, .iconst 1, 1), (2, .putfield 9, 3), (5, .aload_n 0, 1), (6, .iload_n 1, 1), (7, .putfield 15, 3), (10, .iconst 0, 1), (11, .istore_n 2, 1), (12, .iload_n 2, 1), (13, .bipush 40, 2), (15, .if_icmp .ge 16, 3), (18, .aload_n 0, 1), (19, .getfield 19, 3), (22, .iload_n 2, 1), (23, .iconst 0, 1), (24, .iastore, 1), (25, .iinc 2 1, 3), (28, .goto (-16), 3), (31, .return_, 1)]
theorem dc_X1_begin : dnL cX1_begin dl_X1_begin = true := by decide +kernel
theorem d_X1_begin_0 : dn cX1_begin 0 (.aload_n 0) 1 1 := dnAt dc_X1_begin 0 rfl rfl
theorem d_X1_begin_1 : dn cX1_begin 1 (.iconst 1) 1 2 := dnAt dc_X1_begin 1 rfl rfl
theorem d_X1_begin_2 : dn cX1_begin 2 (.putfield 9) 3 5 := dnAt dc_X1_begin 2 rfl rfl
theorem d_X1_begin_5 : dn cX1_begin 5 (.aload_n 0) 1 6 := dnAt dc_X1_begin 3 rfl rfl
theorem d_X1_begin_6 : dn cX1_begin 6 (.iload_n 1) 1 7 := dnAt dc_X1_begin 4 rfl rfl
theorem d_X1_begin_7 : dn cX1_begin 7 (.putfield 15) 3 10 := dnAt dc_X1_begin 5 rfl rfl
theorem d_X1_begin_10 : dn cX1_begin 10 (.iconst 0) 1 11 := dnAt dc_X1_begin 6 rfl rfl
theorem d_X1_begin_11 : dn cX1_begin 11 (.istore_n 2) 1 12 := dnAt dc_X1_begin 7 rfl rfl
theorem d_X1_begin_12 : dn cX1_begin 12 (.iload_n 2) 1 13 := dnAt dc_X1_begin 8 rfl rfl
theorem d_X1_begin_13 : dn cX1_begin 13 (.bipush 40) 2 15 := dnAt dc_X1_begin 9 rfl rfl
theorem d_X1_begin_15 : dn cX1_begin 15 (.if_icmp .ge 16) 3 18 := dnAt dc_X1_begin 10 rfl rfl
theorem d_X1_begin_18 : dn cX1_begin 18 (.aload_n 0) 1 19 := dnAt dc_X1_begin 11 rfl rfl
theorem d_X1_begin_19 : dn cX1_begin 19 (.getfield 19) 3 22 := dnAt dc_X1_begin 12 rfl rfl
theorem d_X1_begin_22 : dn cX1_begin 22 (.iload_n 2) 1 23 := dnAt dc_X1_begin 13 rfl rfl
theorem d_X1_begin_23 : dn cX1_begin 23 (.iconst 0) 1 24 := dnAt dc_X1_begin 14 rfl rfl
theorem d_X1_begin_24 : dn cX1_begin 24 (.iastore) 1 25 := dnAt dc_X1_begin 15 rfl rfl
theorem d_X1_begin_25 : dn cX1_begin 25 (.iinc 2 1) 3 28 := dnAt dc_X1_begin 16 rfl rfl
theorem d_X1_begin_28 : dn cX1_begin 28 (.goto (-16)) 3 31 := dnAt dc_X1_begin 17 rfl rfl
theorem d_X1_begin_31 : dn cX1_begin 31 (.return_) 1 32 := dnAt dc_X1_begin 18 rfl rfl
set_option maxHeartbeats 4000000 in
set_option maxRecDepth 100000 in
theorem k_begin {l : Launch} {G : eG} {ad : Nat → Nat → Nat} {h : hp} {g : mS} {r s : Nat} (hm : co G ad g h) (hr : r < 8) : kC l G ad h yX1_begin cX1_begin 3 (Option.none : Option Jvm.ClassFile.FieldType) { frames := 0, cells := 0, slots := 0, locals := 0 } [.ref (ad 20 r), .int (nI s)] (fun v9 g9 _ => v9 = none ∧ g9 = beS g r s 40) := by
  refine kC.of hm (by decide) (Nat.le_of_ble_eq_true rfl) ?_
  intro x C A TY
  show VC G x ad h g 0 0 0 [(0, .ref (ad 20 r)), (1, .int (nI s))] []
  refine c_aload_n C d_X1_begin_0 0 rfl ?_
  refine c_iconst C d_X1_begin_1 (v := (bI true)) rfl ?_
  refine c_put C d_X1_begin_2 pf_RX1_9 (k := 20) (i' := r) (g' := uB g 32 r true) (decide_eq_true (by omega)) rfl (bI_nar _) (bI_fit _) (Nat.le_of_ble_eq_true rfl) rfl (by simp only [ce, cRes, mN_uN, mB_uB, mN_uB, mB_uN, List.set_cons_zero, List.set_cons_succ, and_self, and_true, true_and, if_true, if_false, (by decide : ¬ (6:Nat) = 5), (by decide : ¬ (5:Nat) = 6)]; try rfl) (oth_B (Or.inr (Or.inr (Or.inr ⟨rfl, rfl, rfl⟩)))) ?_
  refine c_aload_n C d_X1_begin_5 0 rfl ?_
  refine c_iload_n C d_X1_begin_6 1 rfl ?_
  refine c_put C d_X1_begin_7 pf_RX1_15 (k := 20) (i' := r) (g' := uN (uB g 32 r true) 54 r s) (decide_eq_true (by omega)) rfl rfl rfl (Nat.le_of_ble_eq_true rfl) rfl (by simp only [ce, cRes, mN_uN, mB_uB, mN_uB, mB_uN, List.set_cons_zero, List.set_cons_succ, and_self, and_true, true_and, if_true, if_false, (by decide : ¬ (6:Nat) = 5), (by decide : ¬ (5:Nat) = 6)]; try rfl) (oth_N (Or.inr ⟨rfl, rfl, rfl⟩)) ?_
  refine c_iconst C d_X1_begin_10 (v := (nI 0)) rfl ?_
  refine c_istore_n C d_X1_begin_11 (lv' := [(2, .int (nI 0)), (0, .ref (ad 20 r)), (1, .int (nI s))]) (by decide) rfl ?_
  have loop_12 : ∀ (fuel : Nat) (k : Nat), (k ≤ 40) → (41 - k) < fuel → VC G x ad h (beS g r s k) 0 0 12 [(2, .int (nI k)), (0, .ref (ad 20 r)), (1, .int (nI s))] [] := by
    intro fuel
    induction fuel with
    | zero => intro k hk hf9; exact absurd hf9 (Nat.not_lt_zero _)
    | succ fuel ih_12 =>
      intro k hk hf9
      refine c_iload_n C d_X1_begin_12 0 rfl ?_
      refine c_bipush C d_X1_begin_13 (v := (nI 40)) rfl ?_
      refine cn_icmp_ge C d_X1_begin_15 (tgt := 31) rfl (by omega) (by omega) (fun c_15 => ?_) (fun c_15 => ?_)
      · skip
        obtain rfl : k = 40 := by omega
        exact k_vret C A cfr_rf TY d_X1_begin_31 (Nat.le_of_ble_eq_true rfl) (Nat.le_of_ble_eq_true rfl) (fun h9 F9 => ⟨rfl, rfl⟩)
      · skip
        refine c_aload_n C d_X1_begin_18 1 rfl ?_
        refine c_get C d_X1_begin_19 fd_RX1_19 (k := 20) (i' := r) (decide_eq_true (by omega)) rfl (v := .ref (ad 21 r)) rfl ?_
        refine c_iload_n C d_X1_begin_22 0 rfl ?_
        refine c_iconst C d_X1_begin_23 (v := (nI 0)) rfl ?_
        refine c_ast C d_X1_begin_24 (k := 21) (i := r) (v := 0) (decide_eq_true (by omega)) rfl (by show _ < 40; omega) ?_
        refine cn_iinc C d_X1_begin_25 (lv' := [(2, .int (nI (k + 1))), (0, .ref (ad 20 r)), (1, .int (nI s))]) 0 rfl (nI_inc _ rfl) (by decide) rfl ?_
        refine c_goto C d_X1_begin_28 (tgt := 12) rfl ?_
        refine c_eq (g' := beS g r s (k + 1)) (by unfold beS; rw [sN_step (g := beF g r (k + 1))]; intro z; unfold beF; by_cases c : z = 40 * r + k; rw [if_pos c, if_pos (by omega)]; rw [if_neg c]; by_cases d : 40 * r ≤ z ∧ z < 40 * r + k; rw [if_pos d, if_pos (by omega)]; rw [if_neg d, if_neg (by omega)]) ?_
        exact ih_12 (k + 1) (by omega) (by omega)
  refine c_eq (g' := beS g r s 0) (by unfold beS; apply sN_init; intro z; unfold beF; rw [if_neg (by omega)]; rfl) ?_
  exact loop_12 _ 0 (by omega) (Nat.lt_succ_self _)
def dl_X6_groupsAheadOf : List (Nat × Instr × Nat) := [(0, .iconst 0, 1), (1, .istore_n 2, 1), (2, .iconst 0, 1), (3, .istore_n 3, 1), (4, .iload_n 3, 1), (5, .bipush 100, 2), (7, .if_icmp .ge 47, 3), (10, .aload_n 0, 1), (11, .getfield 47, 3), (14, .iload_n 3, 1), (15, .iaload, 1), (16, .aload_n 0, 1), (17, .getfield 47, 3), (20, .iload_n 1, 1), (21, .iaload, 1), (22, .if_icmp .gt 23, 3), (25, .aload_n 0, 1), (26, .getfield 47, 3), (29, .iload_n 3, 1), (30, .iaload, 1), (31, .aload_n 0, 1), (32, .getfield 47, 3), (35, .iload_n 1, 1), (36, .iaload, 1), (37, .if_icmp .ne 11, 3), (40, .iload_n 3, 1), (41, .iload_n 1, 1), (42, .if_icmp .ge 6, 3), (45, .iinc 2 1, 3), (48, .iinc 3 1, 3), (51, .goto (-47), 3), (54, .iload_n 2, 1), (55, .ireturn, 1)]
theorem dc_X6_groupsAheadOf : dnL cX6_groupsAheadOf dl_X6_groupsAheadOf = true := by decide +kernel
theorem d_X6_groupsAheadOf_0 : dn cX6_groupsAheadOf 0 (.iconst 0) 1 1 := dnAt dc_X6_groupsAheadOf 0 rfl rfl
theorem d_X6_groupsAheadOf_1 : dn cX6_groupsAheadOf 1 (.istore_n 2) 1 2 := dnAt dc_X6_groupsAheadOf 1 rfl rfl
theorem d_X6_groupsAheadOf_2 : dn cX6_groupsAheadOf 2 (.iconst 0) 1 3 := dnAt dc_X6_groupsAheadOf 2 rfl rfl
theorem d_X6_groupsAheadOf_3 : dn cX6_groupsAheadOf 3 (.istore_n 3) 1 4 := dnAt dc_X6_groupsAheadOf 3 rfl rfl
theorem d_X6_groupsAheadOf_4 : dn cX6_groupsAheadOf 4 (.iload_n 3) 1 5 := dnAt dc_X6_groupsAheadOf 4 rfl rfl
theorem d_X6_groupsAheadOf_5 : dn cX6_groupsAheadOf 5 (.bipush 100) 2 7 := dnAt dc_X6_groupsAheadOf 5 rfl rfl
theorem d_X6_groupsAheadOf_7 : dn cX6_groupsAheadOf 7 (.if_icmp .ge 47) 3 10 := dnAt dc_X6_groupsAheadOf 6 rfl rfl
theorem d_X6_groupsAheadOf_10 : dn cX6_groupsAheadOf 10 (.aload_n 0) 1 11 := dnAt dc_X6_groupsAheadOf 7 rfl rfl
theorem d_X6_groupsAheadOf_11 : dn cX6_groupsAheadOf 11 (.getfield 47) 3 14 := dnAt dc_X6_groupsAheadOf 8 rfl rfl
theorem d_X6_groupsAheadOf_14 : dn cX6_groupsAheadOf 14 (.iload_n 3) 1 15 := dnAt dc_X6_groupsAheadOf 9 rfl rfl
theorem d_X6_groupsAheadOf_15 : dn cX6_groupsAheadOf 15 (.iaload) 1 16 := dnAt dc_X6_groupsAheadOf 10 rfl rfl
theorem d_X6_groupsAheadOf_16 : dn cX6_groupsAheadOf 16 (.aload_n 0) 1 17 := dnAt dc_X6_groupsAheadOf 11 rfl rfl
theorem d_X6_groupsAheadOf_17 : dn cX6_groupsAheadOf 17 (.getfield 47) 3 20 := dnAt dc_X6_groupsAheadOf 12 rfl rfl
theorem d_X6_groupsAheadOf_20 : dn cX6_groupsAheadOf 20 (.iload_n 1) 1 21 := dnAt dc_X6_groupsAheadOf 13 rfl rfl
theorem d_X6_groupsAheadOf_21 : dn cX6_groupsAheadOf 21 (.iaload) 1 22 := dnAt dc_X6_groupsAheadOf 14 rfl rfl
theorem d_X6_groupsAheadOf_22 : dn cX6_groupsAheadOf 22 (.if_icmp .gt 23) 3 25 := dnAt dc_X6_groupsAheadOf 15 rfl rfl
theorem d_X6_groupsAheadOf_25 : dn cX6_groupsAheadOf 25 (.aload_n 0) 1 26 := dnAt dc_X6_groupsAheadOf 16 rfl rfl
theorem d_X6_groupsAheadOf_26 : dn cX6_groupsAheadOf 26 (.getfield 47) 3 29 := dnAt dc_X6_groupsAheadOf 17 rfl rfl
theorem d_X6_groupsAheadOf_29 : dn cX6_groupsAheadOf 29 (.iload_n 3) 1 30 := dnAt dc_X6_groupsAheadOf 18 rfl rfl
theorem d_X6_groupsAheadOf_30 : dn cX6_groupsAheadOf 30 (.iaload) 1 31 := dnAt dc_X6_groupsAheadOf 19 rfl rfl
theorem d_X6_groupsAheadOf_31 : dn cX6_groupsAheadOf 31 (.aload_n 0) 1 32 := dnAt dc_X6_groupsAheadOf 20 rfl rfl
theorem d_X6_groupsAheadOf_32 : dn cX6_groupsAheadOf 32 (.getfield 47) 3 35 := dnAt dc_X6_groupsAheadOf 21 rfl rfl
theorem d_X6_groupsAheadOf_35 : dn cX6_groupsAheadOf 35 (.iload_n 1) 1 36 := dnAt dc_X6_groupsAheadOf 22 rfl rfl
theorem d_X6_groupsAheadOf_36 : dn cX6_groupsAheadOf 36 (.iaload) 1 37 := dnAt dc_X6_groupsAheadOf 23 rfl rfl
theorem d_X6_groupsAheadOf_37 : dn cX6_groupsAheadOf 37 (.if_icmp .ne 11) 3 40 := dnAt dc_X6_groupsAheadOf 24 rfl rfl
theorem d_X6_groupsAheadOf_40 : dn cX6_groupsAheadOf 40 (.iload_n 3) 1 41 := dnAt dc_X6_groupsAheadOf 25 rfl rfl
theorem d_X6_groupsAheadOf_41 : dn cX6_groupsAheadOf 41 (.iload_n 1) 1 42 := dnAt dc_X6_groupsAheadOf 26 rfl rfl
theorem d_X6_groupsAheadOf_42 : dn cX6_groupsAheadOf 42 (.if_icmp .ge 6) 3 45 := dnAt dc_X6_groupsAheadOf 27 rfl rfl
theorem d_X6_groupsAheadOf_45 : dn cX6_groupsAheadOf 45 (.iinc 2 1) 3 48 := dnAt dc_X6_groupsAheadOf 28 rfl rfl
theorem d_X6_groupsAheadOf_48 : dn cX6_groupsAheadOf 48 (.iinc 3 1) 3 51 := dnAt dc_X6_groupsAheadOf 29 rfl rfl
theorem d_X6_groupsAheadOf_51 : dn cX6_groupsAheadOf 51 (.goto (-47)) 3 54 := dnAt dc_X6_groupsAheadOf 30 rfl rfl
theorem d_X6_groupsAheadOf_54 : dn cX6_groupsAheadOf 54 (.iload_n 2) 1 55 := dnAt dc_X6_groupsAheadOf 31 rfl rfl
theorem d_X6_groupsAheadOf_55 : dn cX6_groupsAheadOf 55 (.ireturn) 1 56 := dnAt dc_X6_groupsAheadOf 32 rfl rfl
set_option maxHeartbeats 4000000 in
set_option maxRecDepth 100000 in
theorem k_groupsAheadOf {l : Launch} {G : eG} {ad : Nat → Nat → Nat} {h : hp} {g : mS} {v : Nat} (hm : co G ad g h) (hv : v < 100) (hc : ∀ z, z < 100 → mN g 52 (100 * 0 + z) < 1000) : kC l G ad h yX6_groupsAheadOf cX6_groupsAheadOf 4 (Option.some Jvm.ClassFile.FieldType.int) { frames := 0, cells := 0, slots := 0, locals := 0 } [.ref (ad 0 0), .int (nI v)] (fun v9 g9 _ => v9 = some (.int (nI (ahM (fun z => mN g 52 (100 * 0 + z)) v 100))) ∧ g9 = g) := by
  refine kC.of hm (by decide) (Nat.le_of_ble_eq_true rfl) ?_
  intro x C A TY
  show VC G x ad h g 0 0 0 [(0, .ref (ad 0 0)), (1, .int (nI v))] []
  have hcv := hc v hv
  refine c_iconst C d_X6_groupsAheadOf_0 (v := (nI 0)) rfl ?_
  refine c_istore_n C d_X6_groupsAheadOf_1 (lv' := [(2, .int (nI 0)), (0, .ref (ad 0 0)), (1, .int (nI v))]) (by decide) rfl ?_
  refine c_iconst C d_X6_groupsAheadOf_2 (v := (nI 0)) rfl ?_
  refine c_istore_n C d_X6_groupsAheadOf_3 (lv' := [(3, .int (nI 0)), (2, .int (nI 0)), (0, .ref (ad 0 0)), (1, .int (nI v))]) (by decide) rfl ?_
  have loop_4 : ∀ (fuel : Nat) (k : Nat), (k ≤ 100) → (101 - k) < fuel → VC G x ad h g 0 0 4 [(3, .int (nI k)), (2, .int (nI (ahM (fun z => mN g 52 (100 * 0 + z)) v k))), (0, .ref (ad 0 0)), (1, .int (nI v))] [] := by
    intro fuel
    induction fuel with
    | zero => intro k hk hf9; exact absurd hf9 (Nat.not_lt_zero _)
    | succ fuel ih_4 =>
      intro k hk hf9
      refine c_iload_n C d_X6_groupsAheadOf_4 0 rfl ?_
      refine c_bipush C d_X6_groupsAheadOf_5 (v := (nI 100)) rfl ?_
      refine cn_icmp_ge C d_X6_groupsAheadOf_7 (tgt := 54) rfl (by omega) (by omega) (fun c_7 => ?_) (fun c_7 => ?_)
      · skip
        obtain rfl : k = 100 := by omega
        refine c_iload_n C d_X6_groupsAheadOf_54 1 rfl ?_
        exact k_iret C A cfr_rf TY d_X6_groupsAheadOf_55 rfl (Nat.le_of_ble_eq_true rfl) (Nat.le_of_ble_eq_true rfl) (fun h9 F9 => ⟨rfl, rfl⟩)
      · skip
        have hck := hc k (by omega)
        refine c_aload_n C d_X6_groupsAheadOf_10 2 rfl ?_
        refine c_get C d_X6_groupsAheadOf_11 fd_RX6_47 (k := 0) (i' := 0) rfl rfl (v := .ref (ad 6 0)) rfl ?_
        refine c_iload_n C d_X6_groupsAheadOf_14 0 rfl ?_
        refine c_ald C d_X6_groupsAheadOf_15 (k := 6) (i := 0) rfl rfl (by show _ < 100; omega) ?_
        refine c_aload_n C d_X6_groupsAheadOf_16 2 rfl ?_
        refine c_get C d_X6_groupsAheadOf_17 fd_RX6_47 (k := 0) (i' := 0) rfl rfl (v := .ref (ad 6 0)) rfl ?_
        refine c_iload_n C d_X6_groupsAheadOf_20 3 rfl ?_
        refine c_ald C d_X6_groupsAheadOf_21 (k := 6) (i := 0) rfl rfl (by show _ < 100; omega) ?_
        have join_48 : VC G x ad h g 0 0 48 [(3, .int (nI k)), (2, .int (nI (ahM (fun z => mN g 52 (100 * 0 + z)) v (k + 1)))), (0, .ref (ad 0 0)), (1, .int (nI v))] [] := by
          refine cn_iinc C d_X6_groupsAheadOf_48 (lv' := [(3, .int (nI (k + 1))), (2, .int (nI (ahM (fun z => mN g 52 (100 * 0 + z)) v (k + 1)))), (0, .ref (ad 0 0)), (1, .int (nI v))]) 0 rfl (nI_inc _ rfl) (by decide) rfl ?_
          refine c_goto C d_X6_groupsAheadOf_51 (tgt := 4) rfl ?_
          exact ih_4 (k + 1) (by omega) (by omega)
        refine cn_icmp_gt C d_X6_groupsAheadOf_22 (tgt := 45) rfl (by omega) (by omega) (fun c_22 => ?_) (fun c_22 => ?_)
        · skip
          refine cn_iinc C d_X6_groupsAheadOf_45 (lv' := [(2, .int (nI (ahM (fun z => mN g 52 (100 * 0 + z)) v k + 1))), (3, .int (nI k)), (0, .ref (ad 0 0)), (1, .int (nI v))]) 1 rfl (nI_inc _ rfl) (by decide) rfl ?_
          refine c_lv (lv' := [(3, .int (nI k)), (2, .int (nI (ahM (fun z => mN g 52 (100 * 0 + z)) v k + 1))), (0, .ref (ad 0 0)), (1, .int (nI v))]) [1, 0, 2, 3] rfl ?_
          refine c_lve (lv' := [(3, .int (nI k)), (2, .int (nI (ahM (fun z => mN g 52 (100 * 0 + z)) v (k + 1)))), (0, .ref (ad 0 0)), (1, .int (nI v))]) (by unfold ahM; rw [sumTo, if_pos (Or.inl c_22)]) ?_
          exact join_48  
        · skip
          refine c_aload_n C d_X6_groupsAheadOf_25 2 rfl ?_
          refine c_get C d_X6_groupsAheadOf_26 fd_RX6_47 (k := 0) (i' := 0) rfl rfl (v := .ref (ad 6 0)) rfl ?_
          refine c_iload_n C d_X6_groupsAheadOf_29 0 rfl ?_
          refine c_ald C d_X6_groupsAheadOf_30 (k := 6) (i := 0) rfl rfl (by show _ < 100; omega) ?_
          refine c_aload_n C d_X6_groupsAheadOf_31 2 rfl ?_
          refine c_get C d_X6_groupsAheadOf_32 fd_RX6_47 (k := 0) (i' := 0) rfl rfl (v := .ref (ad 6 0)) rfl ?_
          refine c_iload_n C d_X6_groupsAheadOf_35 3 rfl ?_
          refine c_ald C d_X6_groupsAheadOf_36 (k := 6) (i := 0) rfl rfl (by show _ < 100; omega) ?_
          refine cn_icmp_ne C d_X6_groupsAheadOf_37 (tgt := 48) rfl (by omega) (by omega) (fun c_37 => ?_) (fun c_37 => ?_)
          · skip
            refine c_lve (lv' := [(3, .int (nI k)), (2, .int (nI (ahM (fun z => mN g 52 (100 * 0 + z)) v (k + 1)))), (0, .ref (ad 0 0)), (1, .int (nI v))]) (by unfold ahM; rw [sumTo, if_neg (by dsimp only; omega)]; rfl) ?_
            exact join_48  
          · skip
            refine c_iload_n C d_X6_groupsAheadOf_40 0 rfl ?_
            refine c_iload_n C d_X6_groupsAheadOf_41 3 rfl ?_
            refine cn_icmp_ge C d_X6_groupsAheadOf_42 (tgt := 48) rfl (by omega) (by omega) (fun c_42 => ?_) (fun c_42 => ?_)
            · skip
              refine c_lve (lv' := [(3, .int (nI k)), (2, .int (nI (ahM (fun z => mN g 52 (100 * 0 + z)) v (k + 1)))), (0, .ref (ad 0 0)), (1, .int (nI v))]) (by unfold ahM; rw [sumTo, if_neg (by dsimp only; omega)]; rfl) ?_
              exact join_48  
            · skip
              refine cn_iinc C d_X6_groupsAheadOf_45 (lv' := [(2, .int (nI (ahM (fun z => mN g 52 (100 * 0 + z)) v k + 1))), (3, .int (nI k)), (0, .ref (ad 0 0)), (1, .int (nI v))]) 1 rfl (nI_inc _ rfl) (by decide) rfl ?_
              refine c_lv (lv' := [(3, .int (nI k)), (2, .int (nI (ahM (fun z => mN g 52 (100 * 0 + z)) v k + 1))), (0, .ref (ad 0 0)), (1, .int (nI v))]) [1, 0, 2, 3] rfl ?_
              refine c_lve (lv' := [(3, .int (nI k)), (2, .int (nI (ahM (fun z => mN g 52 (100 * 0 + z)) v (k + 1)))), (0, .ref (ad 0 0)), (1, .int (nI v))]) (by unfold ahM; rw [sumTo, if_pos (Or.inr ⟨c_37, c_42⟩)]) ?_
              exact join_48  
  refine c_lve (lv' := [(3, .int (nI 0)), (2, .int (nI (ahM (fun z => mN g 52 (100 * 0 + z)) v 0))), (0, .ref (ad 0 0)), (1, .int (nI v))]) (rfl) ?_
  exact loop_4 _ 0 (by omega) (Nat.lt_succ_self _)
