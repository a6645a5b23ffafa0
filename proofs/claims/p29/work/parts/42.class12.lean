theorem tw_338 : (Jvm.Cond.fieldLink "Corpusline$TokenTest" (11 : Nat) "Corpusline$TokenTest" "passing" "[J") ∈ TB := tb_of 338 (by decide +kernel) rfl
theorem tw_514 : (Jvm.Cond.methodLink "Corpusline$TokenTest" (39 : Nat) ({ cls := "Corpusline$Side", name := "valueAt", desc := "(II)I" } : Jvm.MethodName)) ∈ TB := tb_of 514 (by decide +kernel) rfl
theorem fd_RX4_11 : fdOk RX4 11 3 0 := ⟨_, _, _, rfl, by decide, cw_3, tw_338, rfl⟩
theorem ok_RX4_39 : okV RX4 39 yX3_valueAt cX3_valueAt 3 (Option.some Jvm.ClassFile.FieldType.int) 2 := ⟨tw_514, tw_276, tw_277, tw_3, tw_278, ⟨by decide, by decide, by decide +kernel⟩⟩
theorem allTo_mono {f : Nat → Bool} {k : Nat} (h : allTo f k = false) : ∀ j, allTo f (k + j) = false
  | 0 => h
  | j + 1 => by rw [← Nat.add_assoc, allTo, allTo_mono h j]; rfl
theorem allTo_F {f : Nat → Bool} {k n : Nat} (h : f k = false) (hk : k < n) : allTo f n = false := by
  have h1 : allTo f (k + 1) = false := by rw [allTo, h, Bool.and_false]
  have h2 := allTo_mono h1 (n - (k + 1))
  rw [show k + 1 + (n - (k + 1)) = n by omega] at h2
  exact h2
theorem allTo_T {f : Nat → Bool} {k : Nat} (h : allTo f k = true) (h2 : f k = true) : allTo f (k + 1) = true := by rw [allTo, h, h2]; rfl
/-- a token's value of an attribute passes -/
def paF (g : mS) (P : Nat → Nat) (s p : Nat) (k : Nat) : Bool := decide (P (k * 2 + mVal g s p k / 64) / 2 ^ (mVal g s p k % 64) % 2 = 1)
def saX (t k : Nat) : Nat := t / 2 ^ (k % 3 * 6) &&& 63
def saF (g : mS) (sm t s p : Nat) (k : Nat) : Bool := !decide (sm / 2 ^ k % 2 = 1) || (!decide (saX t k = 0) && decide (mVal g s (saX t k - 1) (k / 3) = mVal g s p (k / 3)))
def dl_X4_hasPassingValues : List (Nat × Instr × Nat) := [(0, .iconst 0, 1), (1, .istore_n 3, 1), (2, .iload_n 3, 1), (3, .iconst 3, 1), (4, .if_icmp .ge 50, 3), (7, .aload_n 1, 1), (8, .iload_n 2, 1), (9, .iload_n 3, 1), (10, .invokevirtual 39, 3), (13, .istore 4, 2), (15, .aload_n 0, 1), (16, .getfield 11, 3), (19, .iload_n 3, 1), (20, .iconst 2, 1), (21, .imul, 1), (22, .iload 4, 2), (24, .bipush 64, 2), (26, .idiv, 1), (27, .iadd, 1), (28, .laload, 1), (29, .lstore 5, 2), (31, .lload 5, 2), (33, .iload 4, 2), (35, .bipush 64, 2), (37, .irem, 1), (38, .lushr, 1), (39, .lconst 1, 1), (40, .land, 1), (41, .lconst 0, 1), (42, .lcmp, 1), (43, .ifCond .ne 5, 3), (46, .iconst 0, 1), (47, .ireturn, 1), (48, .iinc 3 1, 3), (51, .goto (-49), 3), (54, .iconst 1, 1), (55, .ireturn, 1)]
theorem dc_X4_hasPassingValues : dnL cX4_hasPassingValues dl_X4_hasPassingValues = true := by decide +kernel
theorem d_X4_hasPassingValues_0 : dn cX4_hasPassingValues 0 (.iconst 0) 1 1 := dnAt dc_X4_hasPassingValues 0 rfl rfl
theorem d_X4_hasPassingValues_1 : dn cX4_hasPassingValues 1 (.istore_n 3) 1 2 := dnAt dc_X4_hasPassingValues 1 rfl rfl
theorem d_X4_hasPassingValues_2 : dn cX4_hasPassingValues 2 (.iload_n 3) 1 3 := dnAt dc_X4_hasPassingValues 2 rfl rfl
theorem d_X4_hasPassingValues_3 : dn cX4_hasPassingValues 3 (.iconst 3) 1 4 := dnAt dc_X4_hasPassingValues 3 rfl rfl
theorem d_X4_hasPassingValues_4 : dn cX4_hasPassingValues 4 (.if_icmp .ge 50) 3 7 := dnAt dc_X4_hasPassingValues 4 rfl rfl
theorem d_X4_hasPassingValues_7 : dn cX4_hasPassingValues 7 (.aload_n 1) 1 8 := dnAt dc_X4_hasPassingValues 5 rfl rfl
theorem d_X4_hasPassingValues_8 : dn cX4_hasPassingValues 8 (.iload_n 2) 1 9 := dnAt dc_X4_hasPassingValues 6 rfl rfl
theorem d_X4_hasPassingValues_9 : dn cX4_hasPassingValues 9 (.iload_n 3) 1 10 := dnAt dc_X4_hasPassingValues 7 rfl rfl
theorem d_X4_hasPassingValues_10 : dn cX4_hasPassingValues 10 (.invokevirtual 39) 3 13 := dnAt dc_X4_hasPassingValues 8 rfl rfl
theorem d_X4_hasPassingValues_13 : dn cX4_hasPassingValues 13 (.istore 4) 2 15 := dnAt dc_X4_hasPassingValues 9 rfl rfl
theorem d_X4_hasPassingValues_15 : dn cX4_hasPassingValues 15 (.aload_n 0) 1 16 := dnAt dc_X4_hasPassingValues 10 rfl rfl
theorem d_X4_hasPassingValues_16 : dn cX4_hasPassingValues 16 (.getfield 11) 3 19 := dnAt dc_X4_hasPassingValues 11 rfl rfl
theorem d_X4_hasPassingValues_19 : dn cX4_hasPassingValues 19 (.iload_n 3) 1 20 := dnAt dc_X4_hasPassingValues 12 rfl rfl
theorem d_X4_hasPassingValues_20 : dn cX4_hasPassingValues 20 (.iconst 2) 1 21 := dnAt dc_X4_hasPassingValues 13 rfl rfl
theorem d_X4_hasPassingValues_21 : dn cX4_hasPassingValues 21 (.imul) 1 22 := dnAt dc_X4_hasPassingValues 14 rfl rfl
theorem d_X4_hasPassingValues_22 : dn cX4_hasPassingValues 22 (.iload 4) 2 24 := dnAt dc_X4_hasPassingValues 15 rfl rfl
theorem d_X4_hasPassingValues_24 : dn cX4_hasPassingValues 24 (.bipush 64) 2 26 := dnAt dc_X4_hasPassingValues 16 rfl rfl
theorem d_X4_hasPassingValues_26 : dn cX4_hasPassingValues 26 (.idiv) 1 27 := dnAt dc_X4_hasPassingValues 17 rfl rfl
theorem d_X4_hasPassingValues_27 : dn cX4_hasPassingValues 27 (.iadd) 1 28 := dnAt dc_X4_hasPassingValues 18 rfl rfl
theorem d_X4_hasPassingValues_28 : dn cX4_hasPassingValues 28 (.laload) 1 29 := dnAt dc_X4_hasPassingValues 19 rfl rfl
theorem d_X4_hasPassingValues_29 : dn cX4_hasPassingValues 29 (.lstore 5) 2 31 := dnAt dc_X4_hasPassingValues 20 rfl rfl
theorem d_X4_hasPassingValues_31 : dn cX4_hasPassingValues 31 (.lload 5) 2 33 := dnAt dc_X4_hasPassingValues 21 rfl rfl
theorem d_X4_hasPassingValues_33 : dn cX4_hasPassingValues 33 (.iload 4) 2 35 := dnAt dc_X4_hasPassingValues 22 rfl rfl
theorem d_X4_hasPassingValues_35 : dn cX4_hasPassingValues 35 (.bipush 64) 2 37 := dnAt dc_X4_hasPassingValues 23 rfl rfl
theorem d_X4_hasPassingValues_37 : dn cX4_hasPassingValues 37 (.irem) 1 38 := dnAt dc_X4_hasPassingValues 24 rfl rfl
theorem d_X4_hasPassingValues_38 : dn cX4_hasPassingValues 38 (.lushr) 1 39 := dnAt dc_X4_hasPassingValues 25 rfl rfl
theorem d_X4_hasPassingValues_39 : dn cX4_hasPassingValues 39 (.lconst 1) 1 40 := dnAt dc_X4_hasPassingValues 26 rfl rfl
theorem d_X4_hasPassingValues_40 : dn cX4_hasPassingValues 40 (.land) 1 41 := dnAt dc_X4_hasPassingValues 27 rfl rfl
theorem d_X4_hasPassingValues_41 : dn cX4_hasPassingValues 41 (.lconst 0) 1 42 := dnAt dc_X4_hasPassingValues 28 rfl rfl
theorem d_X4_hasPassingValues_42 : dn cX4_hasPassingValues 42 (.lcmp) 1 43 := dnAt dc_X4_hasPassingValues 29 rfl rfl
theorem d_X4_hasPassingValues_43 : dn cX4_hasPassingValues 43 (.ifCond .ne 5) 3 46 := dnAt dc_X4_hasPassingValues 30 rfl rfl
theorem d_X4_hasPassingValues_46 : dn cX4_hasPassingValues 46 (.iconst 0) 1 47 := dnAt dc_X4_hasPassingValues 31 rfl rfl
theorem d_X4_hasPassingValues_47 : dn cX4_hasPassingValues 47 (.ireturn) 1 48 := dnAt dc_X4_hasPassingValues 32 rfl rfl
theorem d_X4_hasPassingValues_48 : dn cX4_hasPassingValues 48 (.iinc 3 1) 3 51 := dnAt dc_X4_hasPassingValues 33 rfl rfl
theorem d_X4_hasPassingValues_51 : dn cX4_hasPassingValues 51 (.goto (-49)) 3 54 := dnAt dc_X4_hasPassingValues 34 rfl rfl
theorem d_X4_hasPassingValues_54 : dn cX4_hasPassingValues 54 (.iconst 1) 1 55 := dnAt dc_X4_hasPassingValues 35 rfl rfl
theorem d_X4_hasPassingValues_55 : dn cX4_hasPassingValues 55 (.ireturn) 1 56 := dnAt dc_X4_hasPassingValues 36 rfl rfl
set_option maxHeartbeats 4000000 in
set_option maxRecDepth 100000 in
theorem k_hasPassing {l : Launch} {G : eG} {ad : Nat → Nat → Nat} {h : hp} {g : mS} {a s p sm lb : Nat} {P : Nat → Nat} (hm : co G ad g h) (T : tst G ad h a P sm lb) (I : mInv g) (hs : s < 2) (hp : p < 40) (hP : ∀ j, j < 6 → P j < 18446744073709551616) : kC l G ad h yX4_hasPassingValues cX4_hasPassingValues 7 (Option.some Jvm.ClassFile.FieldType.boolean) { frames := 1, cells := 0, slots := 0, locals := 22 } [.ref a, .ref (ad 10 s), .int (nI p)] (fun v9 g9 _ => v9 = some (.int (bI (allTo (paF g P s p) 3))) ∧ g9 = g) := by
  refine kC.of hm (by decide) (Nat.le_of_ble_eq_true rfl) ?_
  intro x C A TY
  show VC G x ad h g 0 0 0 [(0, .ref a), (1, .ref (ad 10 s)), (2, .int (nI p))] []
  have T0 := T
  obtain ⟨na, pp, np, hta, htp⟩ := T
  refine c_iconst C d_X4_hasPassingValues_0 (v := (nI 0)) rfl ?_
  refine c_istore_n C d_X4_hasPassingValues_1 (lv' := [(3, .int (nI 0)), (0, .ref a), (1, .ref (ad 10 s)), (2, .int (nI p))]) (by decide) rfl ?_
  have loop_2 : ∀ (fuel : Nat) (k : Nat), (k ≤ 3) → (allTo (paF g P s p) k = true) → (4 - k) < fuel → VC G x ad h g 0 0 2 [(3, .int (nI k)), (0, .ref a), (1, .ref (ad 10 s)), (2, .int (nI p))] [] := by
    intro fuel
    induction fuel with
    | zero => intro k hk hz hf9; exact absurd hf9 (Nat.not_lt_zero _)
    | succ fuel ih_2 =>
      intro k hk hz hf9
      refine c_iload_n C d_X4_hasPassingValues_2 0 rfl ?_
      refine c_iconst C d_X4_hasPassingValues_3 (v := (nI 3)) rfl ?_
      refine cn_icmp_ge C d_X4_hasPassingValues_4 (tgt := 54) rfl (by omega) (by omega) (fun c_4 => ?_) (fun c_4 => ?_)
      · skip
        refine c_iconst C d_X4_hasPassingValues_54 (v := (bI true)) rfl ?_
        refine c_st (st' := [.int (bI (allTo (paF g P s p) 3))]) (congrArg (fun z => [Value.int (bI z)]) (by rw [show (3 : Nat) = k by omega]; exact hz.symm)) ?_
        exact k_iret C A cfr_rf TY d_X4_hasPassingValues_55 (bI_nar _) (Nat.le_of_ble_eq_true rfl) (Nat.le_of_ble_eq_true rfl) (fun h9 F9 => ⟨rfl, rfl⟩)
      · skip
        refine c_aload_n C d_X4_hasPassingValues_7 2 rfl ?_
        refine c_iload_n C d_X4_hasPassingValues_8 3 rfl ?_
        refine c_iload_n C d_X4_hasPassingValues_9 0 rfl ?_
        refine k_callV C d_X4_hasPassingValues_10 ok_RX4_39 (k := 10) (i' := s) (fun l h hm hf => k_valueAt hm (by omega) (by omega) (by omega)) (decide_eq_true (by omega)) rfl rfl rfl (rest := []) rfl rfl (Nat.le_of_ble_eq_true rfl) ⟨⟨by decide, by decide⟩, Nat.le_of_ble_eq_true rfl, Nat.le_of_ble_eq_true rfl⟩ (fun v9 g9 hq1 e9 F1 => ?_)
        obtain ⟨rfl, z1⟩ := e9
        refine c_eq z1 ?_
        refine c_base F1 ?_
        show VC G x ad h g 0 0 13 [(3, .int (nI k)), (0, .ref a), (1, .ref (ad 10 s)), (2, .int (nI p))] [.int (nI (mVal g s p k))]
        have hv : mVal g s p k < 100 := I.2.1 (3 * (40 * s + p) + k) (by omega)
        have hq := hP (k * 2 + mVal g s p k / 64) (by omega)
        refine c_istore C d_X4_hasPassingValues_13 (lv' := [(4, .int (nI (mVal g s p k))), (3, .int (nI k)), (0, .ref a), (1, .ref (ad 10 s)), (2, .int (nI p))]) (by decide) rfl ?_
        refine c_aload_n C d_X4_hasPassingValues_15 2 rfl ?_
        refine c_getN C d_X4_hasPassingValues_16 fd_RX4_11 (na) (hta) (v := .ref pp) rfl ?_
        refine c_iload_n C d_X4_hasPassingValues_19 1 rfl ?_
        refine c_iconst C d_X4_hasPassingValues_20 (v := (nI 2)) rfl ?_
        refine cn_imul C d_X4_hasPassingValues_21 ?_
        refine c_iload C d_X4_hasPassingValues_22 0 rfl ?_
        refine c_bipush C d_X4_hasPassingValues_24 (v := (nI 64)) rfl ?_
        refine cn_idiv C d_X4_hasPassingValues_26 (by omega) (by decide) (by decide) ?_
        refine cn_iadd C d_X4_hasPassingValues_27 ?_
        refine c_laldN C d_X4_hasPassingValues_28 (np) (htp) (by omega) (by decide) ?_
        show VC G x ad h g 0 0 29 [(4, .int (nI (mVal g s p k))), (3, .int (nI k)), (0, .ref a), (1, .ref (ad 10 s)), (2, .int (nI p))] [.long (lN (P (k * 2 + mVal g s p k / 64)))]
        refine c_lstore C d_X4_hasPassingValues_29 (lv' := [(5, .long (lN (P (k * 2 + mVal g s p k / 64)))), (4, .int (nI (mVal g s p k))), (3, .int (nI k)), (0, .ref a), (1, .ref (ad 10 s)), (2, .int (nI p))]) (by decide) rfl ?_
        refine c_lload C d_X4_hasPassingValues_31 0 rfl ?_
        refine c_iload C d_X4_hasPassingValues_33 1 rfl ?_
        refine c_bipush C d_X4_hasPassingValues_35 (v := (nI 64)) rfl ?_
        refine cn_irem C d_X4_hasPassingValues_37 (by omega) (by decide) (by decide) ?_
        refine cn_lushr C d_X4_hasPassingValues_38 (by omega) (by omega) ?_
        refine c_lconst C d_X4_hasPassingValues_39 (v := (lN 1)) rfl ?_
        refine cn_land C d_X4_hasPassingValues_40 ?_
        refine c_st (st' := [.long (lN (P (k * 2 + mVal g s p k / 64) / 2 ^ (mVal g s p k % 64) % 2))]) (by rw [and1]) ?_
        refine c_lconst C d_X4_hasPassingValues_41 (v := (lN 0)) rfl ?_
        refine cn_lcmp C d_X4_hasPassingValues_42 (by omega) (by decide) ?_
        refine c_if_ne C d_X4_hasPassingValues_43 (tgt := 48) rfl (fun c_43 => ?_) (fun c_43 => ?_)
        · skip
          refine cn_iinc C d_X4_hasPassingValues_48 (lv' := [(3, .int (nI (k + 1))), (5, .long (lN (P (k * 2 + mVal g s p k / 64)))), (4, .int (nI (mVal g s p k))), (0, .ref a), (1, .ref (ad 10 s)), (2, .int (nI p))]) 2 rfl (nI_inc _ rfl) (by decide) rfl ?_
          refine c_goto C d_X4_hasPassingValues_51 (tgt := 2) rfl ?_
          refine c_lv (lv' := [(3, .int (nI (k + 1))), (0, .ref a), (1, .ref (ad 10 s)), (2, .int (nI p))]) [0, 3, 4, 5] rfl ?_
          exact ih_2 (k + 1) (by omega) (allTo_T hz (decide_eq_true (by have h9 := mt (lcmp_0 (by omega) (by decide)).mpr c_43; omega))) (by omega)
        · skip
          refine c_iconst C d_X4_hasPassingValues_46 (v := (bI false)) rfl ?_
          refine c_st (st' := [.int (bI (allTo (paF g P s p) 3))]) (congrArg (fun z => [Value.int (bI z)]) (allTo_F (f := paF g P s p) (k := k) (decide_eq_false (by have h9 := (lcmp_0 (by omega) (by decide)).mp (Classical.not_not.mp c_43); omega)) (by omega)).symm) ?_
          exact k_iret C A cfr_rf TY d_X4_hasPassingValues_47 (bI_nar _) (Nat.le_of_ble_eq_true rfl) (Nat.le_of_ble_eq_true rfl) (fun h9 F9 => ⟨rfl, rfl⟩)
  exact loop_2 _ 0 (by omega) (rfl) (Nat.lt_succ_self _)
