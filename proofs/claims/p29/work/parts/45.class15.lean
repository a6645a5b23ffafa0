theorem tw_321 : (Jvm.Cond.methodLink "Corpusline" (152 : Nat) ({ cls := "Corpusline", name := "testsOnPile", desc := "()I" } : Jvm.MethodName)) ∈ TB := tb_of 321 (by decide +kernel) rfl
theorem tw_323 : (Jvm.Cond.instanceMethod ({ cls := "Corpusline", name := "testsOnPile", desc := "()I" } : Jvm.MethodName)) ∈ TB := tb_of 323 (by decide +kernel) rfl
theorem tw_324 : (Jvm.Cond.code ({ cls := "Corpusline", name := "testsOnPile", desc := "()I" } : Jvm.MethodName) prog_1_method_33_code (3 : Nat) (Option.some Jvm.ClassFile.FieldType.int)) ∈ TB := tb_of 324 (by decide +kernel) rfl
theorem ts_5 : Cond.selects "Corpusline" ({ cls := "Corpusline", name := "testsOnPile", desc := "()I" } : MethodName) ({ cls := "Corpusline", name := "testsOnPile", desc := "()I" } : MethodName) ∈ TB := tb_sel 5 (by decide +kernel) rfl
theorem ok_RX6_152 : okV RX6 152 yX6_testsOnPile cX6_testsOnPile 3 (Option.some Jvm.ClassFile.FieldType.int) 0 := ⟨tw_321, tw_323, ts_5, tw_1, tw_324, ⟨by decide, by decide, by decide +kernel⟩⟩
def dl_X6_demandRoomForTest : List (Nat × Instr × Nat) := [(0, .aload_n 0, 1), (1, .invokevirtual 152, 3), (4, .bipush 8, 2), (6, .if_icmp .lt 13, 3), (9, .new 64, 3), (12, .dup, 1), (13, .ldc 237, 2), (15, .invokespecial 68, 3), (18, .athrow, 1), (19, .return_, 1)]
theorem dc_X6_demandRoomForTest : dnL cX6_demandRoomForTest dl_X6_demandRoomForTest = true := by decide +kernel
theorem d_X6_demandRoomForTest_0 : dn cX6_demandRoomForTest 0 (.aload_n 0) 1 1 := dnAt dc_X6_demandRoomForTest 0 rfl rfl
theorem d_X6_demandRoomForTest_1 : dn cX6_demandRoomForTest 1 (.invokevirtual 152) 3 4 := dnAt dc_X6_demandRoomForTest 1 rfl rfl
theorem d_X6_demandRoomForTest_4 : dn cX6_demandRoomForTest 4 (.bipush 8) 2 6 := dnAt dc_X6_demandRoomForTest 2 rfl rfl
theorem d_X6_demandRoomForTest_6 : dn cX6_demandRoomForTest 6 (.if_icmp .lt 13) 3 9 := dnAt dc_X6_demandRoomForTest 3 rfl rfl
theorem d_X6_demandRoomForTest_9 : dn cX6_demandRoomForTest 9 (.new 64) 3 12 := dnAt dc_X6_demandRoomForTest 4 rfl rfl
theorem d_X6_demandRoomForTest_12 : dn cX6_demandRoomForTest 12 (.dup) 1 13 := dnAt dc_X6_demandRoomForTest 5 rfl rfl
theorem d_X6_demandRoomForTest_13 : dn cX6_demandRoomForTest 13 (.ldc 237) 2 15 := dnAt dc_X6_demandRoomForTest 6 rfl rfl
theorem d_X6_demandRoomForTest_15 : dn cX6_demandRoomForTest 15 (.invokespecial 68) 3 18 := dnAt dc_X6_demandRoomForTest 7 rfl rfl
theorem d_X6_demandRoomForTest_18 : dn cX6_demandRoomForTest 18 (.athrow) 1 19 := dnAt dc_X6_demandRoomForTest 8 rfl rfl
theorem d_X6_demandRoomForTest_19 : dn cX6_demandRoomForTest 19 (.return_) 1 20 := dnAt dc_X6_demandRoomForTest 9 rfl rfl
set_option maxHeartbeats 4000000 in
set_option maxRecDepth 100000 in
theorem k_demandRoom {l : Launch} {G : eG} {ad : Nat → Nat → Nat} {h : hp} {g : mS} {N : Nat → Nat} (hlf : l.stackTraces = false) (hm : co G ad g h) (h8 : mK g 16 ≤ 8) (hN : ∀ i, i < mK g 16 → 0 < mN g 60 i ∧ N i < 9 ∧ ptn G ad h (mN g 60 i - 1) (N i)) : kX l G ad h yX6_demandRoomForTest cX6_demandRoomForTest 1 (Option.none : Option Jvm.ClassFile.FieldType) { frames := 6, cells := 1, slots := 6, locals := 90 } [.ref (ad 0 0)] (fun v9 g9 _ => v9 = none ∧ g9 = g ∧ sumTo N (mK g 16) < 8) (fun E9 g9 => E9 = "java/lang/IllegalStateException" ∧ 8 ≤ sumTo N (mK g 16) ∧ g9 = g) := by
  refine kX.of hlf hm (by decide) (Nat.le_of_ble_eq_true rfl) ?_
  intro x C A TY X
  show VC G x ad h g 0 0 0 [(0, .ref (ad 0 0))] []
  have hsum := sumTo_le (f := N) (c := 8) (k := mK g 16) (fun j hj => by have := (hN j hj).2.1; omega)
  refine c_aload_n C d_X6_demandRoomForTest_0 0 rfl ?_
  refine k_callV C d_X6_demandRoomForTest_1 ok_RX6_152 (k := 0) (i' := 0) (fun l h hm hf => k_testsOnPile hm h8 (fun i hi => ⟨(hN i hi).1, (hN i hi).2.1, (hN i hi).2.2.mv hf⟩)) rfl rfl rfl rfl (rest := []) rfl rfl (Nat.le_of_ble_eq_true rfl) ⟨⟨by decide, by decide⟩, Nat.le_of_ble_eq_true rfl, Nat.le_of_ble_eq_true rfl⟩ (fun v9 g9 hq1 e9 F1 => ?_)
  obtain ⟨rfl, z1⟩ := e9
  refine c_eq z1 ?_
  refine c_base F1 ?_
  show VC G x ad h g 0 0 4 [(0, .ref (ad 0 0))] [.int (nI (sumTo N (mK g 16)))]
  refine c_bipush C d_X6_demandRoomForTest_4 (v := (nI 8)) rfl ?_
  refine cn_icmp_lt C d_X6_demandRoomForTest_6 (tgt := 19) rfl (by omega) (by decide) (fun c_6 => ?_) (fun c_6 => ?_)
  · skip
    exact k_vret C A cfr_rf TY d_X6_demandRoomForTest_19 (Nat.le_of_ble_eq_true rfl) (Nat.le_of_ble_eq_true rfl) (fun h9 F9 => ⟨rfl, rfl, c_6⟩)
  · skip
    exact k_throw C X cfr_rf d_X6_demandRoomForTest_9 d_X6_demandRoomForTest_12 d_X6_demandRoomForTest_13 d_X6_demandRoomForTest_15 d_X6_demandRoomForTest_18 th_64 (text := "the pile has no room for a test") (by decide) ⟨by decide, Nat.le_of_ble_eq_true rfl, Nat.le_of_ble_eq_true rfl, Nat.le_of_ble_eq_true rfl⟩ (⟨rfl, c_6, rfl⟩)
