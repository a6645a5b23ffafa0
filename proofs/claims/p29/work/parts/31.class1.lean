theorem tw_9 : (Jvm.Cond.initialized "java/lang/IndexOutOfBoundsException") ∈ TB := tb_of 9 (by decide +kernel) rfl
theorem tw_10 : (Jvm.Cond.initialized "java/lang/IllegalArgumentException") ∈ TB := tb_of 10 (by decide +kernel) rfl
theorem tw_97 : (Jvm.Cond.fieldLink "Corpusline" (11 : Nat) "Corpusline" "sides" "[LCorpusline$Side;") ∈ TB := tb_of 97 (by decide +kernel) rfl
theorem tw_133 : (Jvm.Cond.classLink "Corpusline" (88 : Nat) "java/lang/IndexOutOfBoundsException") ∈ TB := tb_of 133 (by decide +kernel) rfl
theorem tw_235 : (Jvm.Cond.classLink "Corpusline" (226 : Nat) "java/lang/IllegalArgumentException") ∈ TB := tb_of 235 (by decide +kernel) rfl
theorem fd_RX6_11 : fdOk RX6 11 5 0 := ⟨_, _, _, rfl, by decide, cw_5, tw_97, rfl⟩
theorem th_88 : thOk 88 92 "java/lang/IndexOutOfBoundsException" := ⟨by decide +kernel, tw_133, tw_9, by decide +kernel, by decide +kernel, by decide +kernel⟩
theorem th_226 : thOk 226 230 "java/lang/IllegalArgumentException" := ⟨by decide +kernel, tw_235, tw_10, by decide +kernel, by decide +kernel, by decide +kernel⟩
theorem inR_F1 {v : Int32} (h : v < 0) {b : Nat} : inR v 0 b = false := inI_F (Or.inl h)
theorem inR_F2 {v : Int32} {b : Nat} (h : ¬ v < nI (b + 1)) (hb : b < 1000) : inR v 0 b = false := by
  cases e : inR v 0 b with
  | false => rfl
  | true =>
    obtain ⟨e1, -, e2⟩ := inR_of e (by decide) (by omega)
    exact absurd ((nI_ltI (by omega) (by omega)).mpr (Nat.lt_succ_of_le e2)) (by rw [← e1]; exact h)
theorem inR_Tb {v : Int32} {b : Nat} (h1 : ¬ v < 0) (h2 : v < nI (b + 1)) (hb : b < 1000) : inR v 0 b = true := by
  obtain ⟨j, hj, rfl⟩ := nI_of h1
  have h3 := (nI_ltI (by omega) (by omega)).mp h2
  refine inI_T h1 (fun c => ?_)
  have h4 := (nI_ltI (by omega) (by omega)).mp c
  omega
def dl_X6_demandRange : List (Nat × Instr × Nat) := [(0, .iload_n 0, 1), (1, .iload_n 1, 1), (2, .if_icmp .lt 8, 3), (5, .iload_n 0, 1), (6, .iload_n 2, 1), (7, .if_icmp .le 13, 3), (10, .new 226, 3), (13, .dup, 1), (14, .ldc 228, 2), (16, .invokespecial 230, 3), (19, .athrow, 1), (20, .return_, 1)]
theorem dc_X6_demandRange : dnL cX6_demandRange dl_X6_demandRange = true := by decide +kernel
theorem d_X6_demandRange_0 : dn cX6_demandRange 0 (.iload_n 0) 1 1 := dnAt dc_X6_demandRange 0 rfl rfl
theorem d_X6_demandRange_1 : dn cX6_demandRange 1 (.iload_n 1) 1 2 := dnAt dc_X6_demandRange 1 rfl rfl
theorem d_X6_demandRange_2 : dn cX6_demandRange 2 (.if_icmp .lt 8) 3 5 := dnAt dc_X6_demandRange 2 rfl rfl
theorem d_X6_demandRange_5 : dn cX6_demandRange 5 (.iload_n 0) 1 6 := dnAt dc_X6_demandRange 3 rfl rfl
theorem d_X6_demandRange_6 : dn cX6_demandRange 6 (.iload_n 2) 1 7 := dnAt dc_X6_demandRange 4 rfl rfl
theorem d_X6_demandRange_7 : dn cX6_demandRange 7 (.if_icmp .le 13) 3 10 := dnAt dc_X6_demandRange 5 rfl rfl
theorem d_X6_demandRange_10 : dn cX6_demandRange 10 (.new 226) 3 13 := dnAt dc_X6_demandRange 6 rfl rfl
theorem d_X6_demandRange_13 : dn cX6_demandRange 13 (.dup) 1 14 := dnAt dc_X6_demandRange 7 rfl rfl
theorem d_X6_demandRange_14 : dn cX6_demandRange 14 (.ldc 228) 2 16 := dnAt dc_X6_demandRange 8 rfl rfl
theorem d_X6_demandRange_16 : dn cX6_demandRange 16 (.invokespecial 230) 3 19 := dnAt dc_X6_demandRange 9 rfl rfl
theorem d_X6_demandRange_19 : dn cX6_demandRange 19 (.athrow) 1 20 := dnAt dc_X6_demandRange 10 rfl rfl
theorem d_X6_demandRange_20 : dn cX6_demandRange 20 (.return_) 1 21 := dnAt dc_X6_demandRange 11 rfl rfl
set_option maxHeartbeats 4000000 in
set_option maxRecDepth 100000 in
theorem k_demandRange {l : Launch} {G : eG} {ad : Nat → Nat → Nat} {h : hp} {g : mS} (hlf : l.stackTraces = false) (hm : co G ad g h) (v a b : Int32) : kX l G ad h yX6_demandRange cX6_demandRange 3 (Option.none : Option Jvm.ClassFile.FieldType) { frames := 6, cells := 1, slots := 6, locals := 90 } [.int v, .int a, .int b] (fun v9 g9 _ => v9 = none ∧ g9 = g ∧ inI v a b = true) (fun E9 g9 => E9 = "java/lang/IllegalArgumentException" ∧ inI v a b = false ∧ g9 = g) := by
  refine kX.of hlf hm (by decide) (Nat.le_of_ble_eq_true rfl) ?_
  intro x C A TY X
  show VC G x ad h g 0 0 0 [(0, .int v), (1, .int a), (2, .int b)] []
  refine c_iload_n C d_X6_demandRange_0 0 rfl ?_
  refine c_iload_n C d_X6_demandRange_1 1 rfl ?_
  refine c_icmp_lt C d_X6_demandRange_2 (tgt := 10) rfl (fun c_2 => ?_) (fun c_2 => ?_)
  · skip
    exact k_throw C X cfr_rf d_X6_demandRange_10 d_X6_demandRange_13 d_X6_demandRange_14 d_X6_demandRange_16 d_X6_demandRange_19 th_226 (text := "an argument is out of its range") (by decide) ⟨by decide, Nat.le_of_ble_eq_true rfl, Nat.le_of_ble_eq_true rfl, Nat.le_of_ble_eq_true rfl⟩ (⟨rfl, inI_F (Or.inl c_2), rfl⟩)
  · skip
    refine c_iload_n C d_X6_demandRange_5 0 rfl ?_
    refine c_iload_n C d_X6_demandRange_6 2 rfl ?_
    refine c_icmp_le C d_X6_demandRange_7 (tgt := 20) rfl (fun c_7 => ?_) (fun c_7 => ?_)
    · skip
      exact k_vret C A cfr_rf TY d_X6_demandRange_20 (Nat.le_of_ble_eq_true rfl) (Nat.le_of_ble_eq_true rfl) (fun h9 F9 => ⟨rfl, rfl, inI_T c_2 (Int32.not_lt.mpr c_7)⟩)
    · skip
      exact k_throw C X cfr_rf d_X6_demandRange_10 d_X6_demandRange_13 d_X6_demandRange_14 d_X6_demandRange_16 d_X6_demandRange_19 th_226 (text := "an argument is out of its range") (by decide) ⟨by decide, Nat.le_of_ble_eq_true rfl, Nat.le_of_ble_eq_true rfl, Nat.le_of_ble_eq_true rfl⟩ (⟨rfl, inI_F (Or.inr (Int32.not_le.mp c_7)), rfl⟩)
def dl_X6_knownSide : List (Nat × Instr × Nat) := [(0, .iload_n 1, 1), (1, .ifCond .lt 8, 3), (4, .iload_n 1, 1), (5, .iconst 2, 1), (6, .if_icmp .lt 13, 3), (9, .new 88, 3), (12, .dup, 1), (13, .ldc 231, 2), (15, .invokespecial 92, 3), (18, .athrow, 1), (19, .aload_n 0, 1), (20, .getfield 11, 3), (23, .iload_n 1, 1), (24, .aaload, 1), (25, .areturn, 1)]
theorem dc_X6_knownSide : dnL cX6_knownSide dl_X6_knownSide = true := by decide +kernel
theorem d_X6_knownSide_0 : dn cX6_knownSide 0 (.iload_n 1) 1 1 := dnAt dc_X6_knownSide 0 rfl rfl
theorem d_X6_knownSide_1 : dn cX6_knownSide 1 (.ifCond .lt 8) 3 4 := dnAt dc_X6_knownSide 1 rfl rfl
theorem d_X6_knownSide_4 : dn cX6_knownSide 4 (.iload_n 1) 1 5 := dnAt dc_X6_knownSide 2 rfl rfl
theorem d_X6_knownSide_5 : dn cX6_knownSide 5 (.iconst 2) 1 6 := dnAt dc_X6_knownSide 3 rfl rfl
theorem d_X6_knownSide_6 : dn cX6_knownSide 6 (.if_icmp .lt 13) 3 9 := dnAt dc_X6_knownSide 4 rfl rfl
theorem d_X6_knownSide_9 : dn cX6_knownSide 9 (.new 88) 3 12 := dnAt dc_X6_knownSide 5 rfl rfl
theorem d_X6_knownSide_12 : dn cX6_knownSide 12 (.dup) 1 13 := dnAt dc_X6_knownSide 6 rfl rfl
theorem d_X6_knownSide_13 : dn cX6_knownSide 13 (.ldc 231) 2 15 := dnAt dc_X6_knownSide 7 rfl rfl
theorem d_X6_knownSide_15 : dn cX6_knownSide 15 (.invokespecial 92) 3 18 := dnAt dc_X6_knownSide 8 rfl rfl
theorem d_X6_knownSide_18 : dn cX6_knownSide 18 (.athrow) 1 19 := dnAt dc_X6_knownSide 9 rfl rfl
theorem d_X6_knownSide_19 : dn cX6_knownSide 19 (.aload_n 0) 1 20 := dnAt dc_X6_knownSide 10 rfl rfl
theorem d_X6_knownSide_20 : dn cX6_knownSide 20 (.getfield 11) 3 23 := dnAt dc_X6_knownSide 11 rfl rfl
theorem d_X6_knownSide_23 : dn cX6_knownSide 23 (.iload_n 1) 1 24 := dnAt dc_X6_knownSide 12 rfl rfl
theorem d_X6_knownSide_24 : dn cX6_knownSide 24 (.aaload) 1 25 := dnAt dc_X6_knownSide 13 rfl rfl
theorem d_X6_knownSide_25 : dn cX6_knownSide 25 (.areturn) 1 26 := dnAt dc_X6_knownSide 14 rfl rfl
set_option maxHeartbeats 4000000 in
set_option maxRecDepth 100000 in
theorem k_knownSide {l : Launch} {G : eG} {ad : Nat → Nat → Nat} {h : hp} {g : mS} (hlf : l.stackTraces = false) (hm : co G ad g h) (v : Int32) : kX l G ad h yX6_knownSide cX6_knownSide 2 (Option.some (Jvm.ClassFile.FieldType.object "Corpusline$Side")) { frames := 6, cells := 1, slots := 6, locals := 90 } [.ref (ad 0 0), .int v] (fun v9 g9 _ => v9 = some (.ref (ad 10 (tn v))) ∧ g9 = g ∧ inR v 0 1 = true) (fun E9 g9 => E9 = "java/lang/IndexOutOfBoundsException" ∧ inR v 0 1 = false ∧ g9 = g) := by
  refine kX.of hlf hm (by decide) (Nat.le_of_ble_eq_true rfl) ?_
  intro x C A TY X
  show VC G x ad h g 0 0 0 [(0, .ref (ad 0 0)), (1, .int v)] []
  refine c_iload_n C d_X6_knownSide_0 1 rfl ?_
  refine c_if_lt C d_X6_knownSide_1 (tgt := 9) rfl (fun c_1 => ?_) (fun c_1 => ?_)
  · skip
    exact k_throw C X cfr_rf d_X6_knownSide_9 d_X6_knownSide_12 d_X6_knownSide_13 d_X6_knownSide_15 d_X6_knownSide_18 th_88 (text := "no such side") (by decide) ⟨by decide, Nat.le_of_ble_eq_true rfl, Nat.le_of_ble_eq_true rfl, Nat.le_of_ble_eq_true rfl⟩ (⟨rfl, inR_F1 c_1, rfl⟩)
  · skip
    refine c_iload_n C d_X6_knownSide_4 1 rfl ?_
    refine c_iconst C d_X6_knownSide_5 (v := (nI 2)) rfl ?_
    refine c_icmp_lt C d_X6_knownSide_6 (tgt := 19) rfl (fun c_6 => ?_) (fun c_6 => ?_)
    · skip
      have i1 := inR_Tb (b := 1) c_1 c_6 (by decide)
      obtain ⟨e1, -, e2⟩ := inR_of i1 (by decide) (by decide)
      refine c_lve (lv' := [(0, .ref (ad 0 0)), (1, .int (nI (tn v)))]) (by rw [← e1]) ?_
      refine c_aload_n C d_X6_knownSide_19 0 rfl ?_
      refine c_get C d_X6_knownSide_20 fd_RX6_11 (k := 0) (i' := 0) rfl rfl (v := .ref (ad 1 0)) rfl ?_
      refine c_iload_n C d_X6_knownSide_23 1 rfl ?_
      refine c_aSide C d_X6_knownSide_24 (s := tn v) (by omega) ?_
      exact k_aret C A cfr_rf TY d_X6_knownSide_25 (Nat.le_of_ble_eq_true rfl) (Nat.le_of_ble_eq_true rfl) (fun h9 F9 => ⟨rfl, rfl, i1⟩)
    · skip
      exact k_throw C X cfr_rf d_X6_knownSide_9 d_X6_knownSide_12 d_X6_knownSide_13 d_X6_knownSide_15 d_X6_knownSide_18 th_88 (text := "no such side") (by decide) ⟨by decide, Nat.le_of_ble_eq_true rfl, Nat.le_of_ble_eq_true rfl, Nat.le_of_ble_eq_true rfl⟩ (⟨rfl, inR_F2 (b := 1) c_6 (by decide), rfl⟩)
