theorem tw_36 : (Jvm.Cond.fieldLink "Corpusline$Walker" (15 : Nat) "Corpusline$Walker" "spareWays" "[I") ∈ TB := tb_of 36 (by decide +kernel) rfl
theorem fd_RX5_15 : fdOk RX5 15 4 1 := ⟨_, _, _, rfl, by decide, cw_4, tw_36, rfl⟩
/-- whether a way is among the spare ones -/
def swF (g : mS) (w f : Nat) (j : Nat) : Bool := decide (f ≤ j) && decide (mN g 50 (70 * si g + j) = w)
theorem sw_0 {g : mS} {w f : Nat} : ∀ k, k ≤ f → haO (swF g w f) k = false
  | 0, _ => rfl
  | k + 1, h => by
    rw [haO, sw_0 k (by omega), swF, decide_eq_false (by omega)]; rfl
theorem sw_T {g : mS} {w f k t : Nat} (h1 : f ≤ k) (h2 : mN g 50 (70 * si g + k) = w) (h3 : k < t) : haO (swF g w f) t = true := by
  have h : haO (swF g w f) (k + 1) = true := by rw [haO, swF, decide_eq_true h1, decide_eq_true h2]; simp
  have h4 := haO_mono h (t - (k + 1))
  rw [show k + 1 + (t - (k + 1)) = t by omega] at h4
  exact h4
theorem sw_F {g : mS} {w f k : Nat} (h : haO (swF g w f) k = false) (h2 : ¬ mN g 50 (70 * si g + k) = w) : haO (swF g w f) (k + 1) = false := by
  rw [haO, h, swF, decide_eq_false h2, Bool.and_false]; rfl
def dl_X5_isSpareWay : List (Nat × Instr × Nat) := [(0, .iload_n 2, 1), (1, .istore 4, 2), (3, .iload 4, 2), (5, .iload_n 3, 1), (6, .if_icmp .ge 22, 3), (9, .aload_n 0, 1), (10, .getfield 15, 3), (13, .iload 4, 2), (15, .iaload, 1), (16, .iload_n 1, 1), (17, .if_icmp .ne 5, 3), (20, .iconst 1, 1), (21, .ireturn, 1), (22, .iinc 4 1, 3), (25, .goto (-22), 3), (28, .iconst 0, 1), (29, .ireturn, 1)]
theorem dc_X5_isSpareWay : dnL cX5_isSpareWay dl_X5_isSpareWay = true := by decide +kernel
theorem d_X5_isSpareWay_0 : dn cX5_isSpareWay 0 (.iload_n 2) 1 1 := dnAt dc_X5_isSpareWay 0 rfl rfl
theorem d_X5_isSpareWay_1 : dn cX5_isSpareWay 1 (.istore 4) 2 3 := dnAt dc_X5_isSpareWay 1 rfl rfl
theorem d_X5_isSpareWay_3 : dn cX5_isSpareWay 3 (.iload 4) 2 5 := dnAt dc_X5_isSpareWay 2 rfl rfl
theorem d_X5_isSpareWay_5 : dn cX5_isSpareWay 5 (.iload_n 3) 1 6 := dnAt dc_X5_isSpareWay 3 rfl rfl
theorem d_X5_isSpareWay_6 : dn cX5_isSpareWay 6 (.if_icmp .ge 22) 3 9 := dnAt dc_X5_isSpareWay 4 rfl rfl
theorem d_X5_isSpareWay_9 : dn cX5_isSpareWay 9 (.aload_n 0) 1 10 := dnAt dc_X5_isSpareWay 5 rfl rfl
theorem d_X5_isSpareWay_10 : dn cX5_isSpareWay 10 (.getfield 15) 3 13 := dnAt dc_X5_isSpareWay 6 rfl rfl
theorem d_X5_isSpareWay_13 : dn cX5_isSpareWay 13 (.iload 4) 2 15 := dnAt dc_X5_isSpareWay 7 rfl rfl
theorem d_X5_isSpareWay_15 : dn cX5_isSpareWay 15 (.iaload) 1 16 := dnAt dc_X5_isSpareWay 8 rfl rfl
theorem d_X5_isSpareWay_16 : dn cX5_isSpareWay 16 (.iload_n 1) 1 17 := dnAt dc_X5_isSpareWay 9 rfl rfl
theorem d_X5_isSpareWay_17 : dn cX5_isSpareWay 17 (.if_icmp .ne 5) 3 20 := dnAt dc_X5_isSpareWay 10 rfl rfl
theorem d_X5_isSpareWay_20 : dn cX5_isSpareWay 20 (.iconst 1) 1 21 := dnAt dc_X5_isSpareWay 11 rfl rfl
theorem d_X5_isSpareWay_21 : dn cX5_isSpareWay 21 (.ireturn) 1 22 := dnAt dc_X5_isSpareWay 12 rfl rfl
theorem d_X5_isSpareWay_22 : dn cX5_isSpareWay 22 (.iinc 4 1) 3 25 := dnAt dc_X5_isSpareWay 13 rfl rfl
theorem d_X5_isSpareWay_25 : dn cX5_isSpareWay 25 (.goto (-22)) 3 28 := dnAt dc_X5_isSpareWay 14 rfl rfl
theorem d_X5_isSpareWay_28 : dn cX5_isSpareWay 28 (.iconst 0) 1 29 := dnAt dc_X5_isSpareWay 15 rfl rfl
theorem d_X5_isSpareWay_29 : dn cX5_isSpareWay 29 (.ireturn) 1 30 := dnAt dc_X5_isSpareWay 16 rfl rfl
set_option maxHeartbeats 4000000 in
set_option maxRecDepth 100000 in
theorem k_isSpareWay {l : Launch} {G : eG} {ad : Nat → Nat → Nat} {h : hp} {g : mS} {w f t : Nat} (hm : co G ad g h) (hw : w < 2147483648) (hft : f ≤ t) (ht : t ≤ 70) (hv : ∀ j, j < 70 → mN g 50 (70 * si g + j) < 2147483648) : kC l G ad h yX5_isSpareWay cX5_isSpareWay 5 (Option.some Jvm.ClassFile.FieldType.boolean) { frames := 0, cells := 0, slots := 0, locals := 0 } [.ref (ad 5 0), .int (nI w), .int (nI f), .int (nI t)] (fun v9 g9 _ => v9 = some (.int (bI (haO (swF g w f) t))) ∧ g9 = g) := by
  refine kC.of hm (by decide) (Nat.le_of_ble_eq_true rfl) ?_
  intro x C A TY
  show VC G x ad h g 0 0 0 [(0, .ref (ad 5 0)), (1, .int (nI w)), (2, .int (nI f)), (3, .int (nI t))] []
  have hsi := si_lt g
  refine c_iload_n C d_X5_isSpareWay_0 2 rfl ?_
  refine c_istore C d_X5_isSpareWay_1 (lv' := [(4, .int (nI f)), (0, .ref (ad 5 0)), (1, .int (nI w)), (2, .int (nI f)), (3, .int (nI t))]) (by decide) rfl ?_
  have loop_3 : ∀ (fuel : Nat) (k : Nat), (f ≤ k ∧ k ≤ t) → (haO (swF g w f) k = false) → (71 - k) < fuel → VC G x ad h g 0 0 3 [(4, .int (nI k)), (0, .ref (ad 5 0)), (1, .int (nI w)), (2, .int (nI f)), (3, .int (nI t))] [] := by
    intro fuel
    induction fuel with
    | zero => intro k hk hz hf9; exact absurd hf9 (Nat.not_lt_zero _)
    | succ fuel ih_3 =>
      intro k hk hz hf9
      refine c_iload C d_X5_isSpareWay_3 0 rfl ?_
      refine c_iload_n C d_X5_isSpareWay_5 4 rfl ?_
      refine cn_icmp_ge C d_X5_isSpareWay_6 (tgt := 28) rfl (by omega) (by omega) (fun c_6 => ?_) (fun c_6 => ?_)
      · skip
        refine c_iconst C d_X5_isSpareWay_28 (v := (bI false)) rfl ?_
        refine c_st (st' := [.int (bI (haO (swF g w f) t))]) (congrArg (fun z => [Value.int (bI z)]) (by rw [show t = k by omega]; exact hz.symm)) ?_
        exact k_iret C A cfr_rf TY d_X5_isSpareWay_29 (bI_nar _) (Nat.le_of_ble_eq_true rfl) (Nat.le_of_ble_eq_true rfl) (fun h9 F9 => ⟨rfl, rfl⟩)
      · skip
        refine c_aload_n C d_X5_isSpareWay_9 1 rfl ?_
        refine c_get C d_X5_isSpareWay_10 fd_RX5_15 (k := 5) (i' := 0) rfl rfl (v := .ref (ad 7 (si g))) rfl ?_
        refine c_iload C d_X5_isSpareWay_13 0 rfl ?_
        refine c_ald C d_X5_isSpareWay_15 (k := 7) (i := si g) (decide_eq_true (by omega)) rfl (by show _ < 70; omega) ?_
        refine c_iload_n C d_X5_isSpareWay_16 2 rfl ?_
        refine cn_icmp_ne C d_X5_isSpareWay_17 (tgt := 22) rfl (hv k (by omega)) (hw) (fun c_17 => ?_) (fun c_17 => ?_)
        · skip
          refine cn_iinc C d_X5_isSpareWay_22 (lv' := [(4, .int (nI (k + 1))), (0, .ref (ad 5 0)), (1, .int (nI w)), (2, .int (nI f)), (3, .int (nI t))]) 0 rfl (nI_inc _ rfl) (by decide) rfl ?_
          refine c_goto C d_X5_isSpareWay_25 (tgt := 3) rfl ?_
          exact ih_3 (k + 1) (by omega) (sw_F hz c_17) (by omega)
        · skip
          refine c_iconst C d_X5_isSpareWay_20 (v := (bI true)) rfl ?_
          refine c_st (st' := [.int (bI (haO (swF g w f) t))]) (congrArg (fun z => [Value.int (bI z)]) (sw_T hk.1 c_17 (by omega)).symm) ?_
          exact k_iret C A cfr_rf TY d_X5_isSpareWay_21 (bI_nar _) (Nat.le_of_ble_eq_true rfl) (Nat.le_of_ble_eq_true rfl) (fun h9 F9 => ⟨rfl, rfl⟩)
  exact loop_3 _ f (by omega) (sw_0 f (Nat.le_refl _)) (Nat.lt_succ_self _)
