theorem tw_526 : (Jvm.Cond.methodLink "Corpusline$TokenTest" (45 : Nat) ({ cls := "Corpusline$Settings", name := "tokenOf", desc := "(II)I" } : Jvm.MethodName)) ∈ TB := tb_of 526 (by decide +kernel) rfl
theorem tw_527 : (Jvm.Cond.static ({ cls := "Corpusline$Settings", name := "tokenOf", desc := "(II)I" } : Jvm.MethodName)) ∈ TB := tb_of 527 (by decide +kernel) rfl
theorem tw_528 : (Jvm.Cond.code ({ cls := "Corpusline$Settings", name := "tokenOf", desc := "(II)I" } : Jvm.MethodName) prog_4_method_3_code (2 : Nat) (Option.some Jvm.ClassFile.FieldType.int)) ∈ TB := tb_of 528 (by decide +kernel) rfl
theorem ok_RX4_45 : okS RX4 45 yX2_tokenOf cX2_tokenOf 2 (Option.some Jvm.ClassFile.FieldType.int) 2 := ⟨tw_526, tw_527, tw_14, tw_528, ⟨by decide, by decide, by decide +kernel⟩⟩
theorem stT_0 {t k : Nat} (h : stT t (k % 3) = -1) : saX t k = 0 := by
  rcases Nat.eq_zero_or_pos (saX t k) with z | z
  · exact z
  · have h1 : stT t (k % 3) = nI (saX t k - 1) := pk_sub z
    have h2 : saX t k ≤ 63 := Nat.and_le_right
    rw [h1] at h
    have h3 : ∀ j, j < 64 → nI j ≠ -1 := by decide
    exact absurd h (h3 _ (by omega))
theorem stT_p {t k : Nat} (h : ¬ stT t (k % 3) = -1) : 0 < saX t k ∧ stT t (k % 3) = nI (saX t k - 1) := by
  rcases Nat.eq_zero_or_pos (saX t k) with z | z
  · exact absurd (by show nI (saX t k) - nI 1 = -1; rw [z]; decide) h
  · exact ⟨z, pk_sub z⟩
def dl_X4_hasSameValues : List (Nat × Instr × Nat) := [(0, .iconst 0, 1), (1, .istore 4, 2), (3, .iload 4, 2), (5, .bipush 9, 2), (7, .if_icmp .ge 66, 3), (10, .aload_n 0, 1), (11, .getfield 15, 3), (14, .iload 4, 2), (16, .ishr, 1), (17, .iconst 1, 1), (18, .iand, 1), (19, .ifCond .ne 6, 3), (22, .goto 45, 3), (25, .iload_n 3, 1), (26, .iload 4, 2), (28, .iconst 3, 1), (29, .irem, 1), (30, .invokestatic 45, 3), (33, .istore 5, 2), (35, .iload 4, 2), (37, .iconst 3, 1), (38, .idiv, 1), (39, .istore 6, 2), (41, .iload 5, 2), (43, .iconst (-1), 1), (44, .if_icmp .eq 21, 3), (47, .aload_n 1, 1), (48, .iload 5, 2), (50, .iload 6, 2), (52, .invokevirtual 39, 3), (55, .aload_n 1, 1), (56, .iload_n 2, 1), (57, .iload 6, 2), (59, .invokevirtual 39, 3), (62, .if_icmp .eq 5, 3), (65, .iconst 0, 1), (66, .ireturn, 1), (67, .iinc 4 1, 3), (70, .goto (-67), 3), (73, .iconst 1, 1), (74, .ireturn, 1)]
theorem dc_X4_hasSameValues : dnL cX4_hasSameValues dl_X4_hasSameValues = true := by decide +kernel
theorem d_X4_hasSameValues_0 : dn cX4_hasSameValues 0 (.iconst 0) 1 1 := dnAt dc_X4_hasSameValues 0 rfl rfl
theorem d_X4_hasSameValues_1 : dn cX4_hasSameValues 1 (.istore 4) 2 3 := dnAt dc_X4_hasSameValues 1 rfl rfl
theorem d_X4_hasSameValues_3 : dn cX4_hasSameValues 3 (.iload 4) 2 5 := dnAt dc_X4_hasSameValues 2 rfl rfl
theorem d_X4_hasSameValues_5 : dn cX4_hasSameValues 5 (.bipush 9) 2 7 := dnAt dc_X4_hasSameValues 3 rfl rfl
theorem d_X4_hasSameValues_7 : dn cX4_hasSameValues 7 (.if_icmp .ge 66) 3 10 := dnAt dc_X4_hasSameValues 4 rfl rfl
theorem d_X4_hasSameValues_10 : dn cX4_hasSameValues 10 (.aload_n 0) 1 11 := dnAt dc_X4_hasSameValues 5 rfl rfl
theorem d_X4_hasSameValues_11 : dn cX4_hasSameValues 11 (.getfield 15) 3 14 := dnAt dc_X4_hasSameValues 6 rfl rfl
theorem d_X4_hasSameValues_14 : dn cX4_hasSameValues 14 (.iload 4) 2 16 := dnAt dc_X4_hasSameValues 7 rfl rfl
theorem d_X4_hasSameValues_16 : dn cX4_hasSameValues 16 (.ishr) 1 17 := dnAt dc_X4_hasSameValues 8 rfl rfl
theorem d_X4_hasSameValues_17 : dn cX4_hasSameValues 17 (.iconst 1) 1 18 := dnAt dc_X4_hasSameValues 9 rfl rfl
theorem d_X4_hasSameValues_18 : dn cX4_hasSameValues 18 (.iand) 1 19 := dnAt dc_X4_hasSameValues 10 rfl rfl
theorem d_X4_hasSameValues_19 : dn cX4_hasSameValues 19 (.ifCond .ne 6) 3 22 := dnAt dc_X4_hasSameValues 11 rfl rfl
theorem d_X4_hasSameValues_22 : dn cX4_hasSameValues 22 (.goto 45) 3 25 := dnAt dc_X4_hasSameValues 12 rfl rfl
theorem d_X4_hasSameValues_25 : dn cX4_hasSameValues 25 (.iload_n 3) 1 26 := dnAt dc_X4_hasSameValues 13 rfl rfl
theorem d_X4_hasSameValues_26 : dn cX4_hasSameValues 26 (.iload 4) 2 28 := dnAt dc_X4_hasSameValues 14 rfl rfl
theorem d_X4_hasSameValues_28 : dn cX4_hasSameValues 28 (.iconst 3) 1 29 := dnAt dc_X4_hasSameValues 15 rfl rfl
theorem d_X4_hasSameValues_29 : dn cX4_hasSameValues 29 (.irem) 1 30 := dnAt dc_X4_hasSameValues 16 rfl rfl
theorem d_X4_hasSameValues_30 : dn cX4_hasSameValues 30 (.invokestatic 45) 3 33 := dnAt dc_X4_hasSameValues 17 rfl rfl
theorem d_X4_hasSameValues_33 : dn cX4_hasSameValues 33 (.istore 5) 2 35 := dnAt dc_X4_hasSameValues 18 rfl rfl
theorem d_X4_hasSameValues_35 : dn cX4_hasSameValues 35 (.iload 4) 2 37 := dnAt dc_X4_hasSameValues 19 rfl rfl
theorem d_X4_hasSameValues_37 : dn cX4_hasSameValues 37 (.iconst 3) 1 38 := dnAt dc_X4_hasSameValues 20 rfl rfl
theorem d_X4_hasSameValues_38 : dn cX4_hasSameValues 38 (.idiv) 1 39 := dnAt dc_X4_hasSameValues 21 rfl rfl
theorem d_X4_hasSameValues_39 : dn cX4_hasSameValues 39 (.istore 6) 2 41 := dnAt dc_X4_hasSameValues 22 rfl rfl
theorem d_X4_hasSameValues_41 : dn cX4_hasSameValues 41 (.iload 5) 2 43 := dnAt dc_X4_hasSameValues 23 rfl rfl
theorem d_X4_hasSameValues_43 : dn cX4_hasSameValues 43 (.iconst (-1)) 1 44 := dnAt dc_X4_hasSameValues 24 rfl rfl
theorem d_X4_hasSameValues_44 : dn cX4_hasSameValues 44 (.if_icmp .eq 21) 3 47 := dnAt dc_X4_hasSameValues 25 rfl rfl
theorem d_X4_hasSameValues_47 : dn cX4_hasSameValues 47 (.aload_n 1) 1 48 := dnAt dc_X4_hasSameValues 26 rfl rfl
theorem d_X4_hasSameValues_48 : dn cX4_hasSameValues 48 (.iload 5) 2 50 := dnAt dc_X4_hasSameValues 27 rfl rfl
theorem d_X4_hasSameValues_50 : dn cX4_hasSameValues 50 (.iload 6) 2 52 := dnAt dc_X4_hasSameValues 28 rfl rfl
theorem d_X4_hasSameValues_52 : dn cX4_hasSameValues 52 (.invokevirtual 39) 3 55 := dnAt dc_X4_hasSameValues 29 rfl rfl
theorem d_X4_hasSameValues_55 : dn cX4_hasSameValues 55 (.aload_n 1) 1 56 := dnAt dc_X4_hasSameValues 30 rfl rfl
theorem d_X4_hasSameValues_56 : dn cX4_hasSameValues 56 (.iload_n 2) 1 57 := dnAt dc_X4_hasSameValues 31 rfl rfl
theorem d_X4_hasSameValues_57 : dn cX4_hasSameValues 57 (.iload 6) 2 59 := dnAt dc_X4_hasSameValues 32 rfl rfl
theorem d_X4_hasSameValues_59 : dn cX4_hasSameValues 59 (.invokevirtual 39) 3 62 := dnAt dc_X4_hasSameValues 33 rfl rfl
theorem d_X4_hasSameValues_62 : dn cX4_hasSameValues 62 (.if_icmp .eq 5) 3 65 := dnAt dc_X4_hasSameValues 34 rfl rfl
theorem d_X4_hasSameValues_65 : dn cX4_hasSameValues 65 (.iconst 0) 1 66 := dnAt dc_X4_hasSameValues 35 rfl rfl
theorem d_X4_hasSameValues_66 : dn cX4_hasSameValues 66 (.ireturn) 1 67 := dnAt dc_X4_hasSameValues 36 rfl rfl
theorem d_X4_hasSameValues_67 : dn cX4_hasSameValues 67 (.iinc 4 1) 3 70 := dnAt dc_X4_hasSameValues 37 rfl rfl
theorem d_X4_hasSameValues_70 : dn cX4_hasSameValues 70 (.goto (-67)) 3 73 := dnAt dc_X4_hasSameValues 38 rfl rfl
theorem d_X4_hasSameValues_73 : dn cX4_hasSameValues 73 (.iconst 1) 1 74 := dnAt dc_X4_hasSameValues 39 rfl rfl
theorem d_X4_hasSameValues_74 : dn cX4_hasSameValues 74 (.ireturn) 1 75 := dnAt dc_X4_hasSameValues 40 rfl rfl
set_option maxHeartbeats 4000000 in
set_option maxRecDepth 100000 in
theorem k_hasSame {l : Launch} {G : eG} {ad : Nat → Nat → Nat} {h : hp} {g : mS} {a s p t sm lb : Nat} {P : Nat → Nat} (hm : co G ad g h) (T : tst G ad h a P sm lb) (I : mInv g) (hs : s < 2) (hp : p < 40) (hsm : sm < 512) (ht : t < 2147483648) (hx : ∀ k, k < 9 → saX t k ≤ 40) : kC l G ad h yX4_hasSameValues cX4_hasSameValues 7 (Option.some Jvm.ClassFile.FieldType.boolean) { frames := 1, cells := 0, slots := 0, locals := 22 } [.ref a, .ref (ad 10 s), .int (nI p), .int (nI t)] (fun v9 g9 _ => v9 = some (.int (bI (allTo (saF g sm t s p) 9))) ∧ g9 = g) := by
  refine kC.of hm (by decide) (Nat.le_of_ble_eq_true rfl) ?_
  intro x C A TY
  show VC G x ad h g 0 0 0 [(0, .ref a), (1, .ref (ad 10 s)), (2, .int (nI p)), (3, .int (nI t))] []
  have T0 := T
  obtain ⟨na, pp, np, hta, htp⟩ := T
  refine c_iconst C d_X4_hasSameValues_0 (v := (nI 0)) rfl ?_
  refine c_istore C d_X4_hasSameValues_1 (lv' := [(4, .int (nI 0)), (0, .ref a), (1, .ref (ad 10 s)), (2, .int (nI p)), (3, .int (nI t))]) (by decide) rfl ?_
  have loop_3 : ∀ (fuel : Nat) (k : Nat), (k ≤ 9) → (allTo (saF g sm t s p) k = true) → (10 - k) < fuel → VC G x ad h g 0 0 3 [(4, .int (nI k)), (0, .ref a), (1, .ref (ad 10 s)), (2, .int (nI p)), (3, .int (nI t))] [] := by
    intro fuel
    induction fuel with
    | zero => intro k hk hz hf9; exact absurd hf9 (Nat.not_lt_zero _)
    | succ fuel ih_3 =>
      intro k hk hz hf9
      refine c_iload C d_X4_hasSameValues_3 0 rfl ?_
      refine c_bipush C d_X4_hasSameValues_5 (v := (nI 9)) rfl ?_
      refine cn_icmp_ge C d_X4_hasSameValues_7 (tgt := 73) rfl (by omega) (by omega) (fun c_7 => ?_) (fun c_7 => ?_)
      · skip
        refine c_iconst C d_X4_hasSameValues_73 (v := (bI true)) rfl ?_
        refine c_st (st' := [.int (bI (allTo (saF g sm t s p) 9))]) (congrArg (fun z => [Value.int (bI z)]) (by rw [show (9 : Nat) = k by omega]; exact hz.symm)) ?_
        exact k_iret C A cfr_rf TY d_X4_hasSameValues_74 (bI_nar _) (Nat.le_of_ble_eq_true rfl) (Nat.le_of_ble_eq_true rfl) (fun h9 F9 => ⟨rfl, rfl⟩)
      · skip
        refine c_aload_n C d_X4_hasSameValues_10 1 rfl ?_
        refine c_getN C d_X4_hasSameValues_11 fd_RX4_15 (na) (hta) (v := .int (nI sm)) rfl ?_
        refine c_iload C d_X4_hasSameValues_14 0 rfl ?_
        refine cn_ishr C d_X4_hasSameValues_16 (by omega) (by omega) ?_
        refine c_iconst C d_X4_hasSameValues_17 (v := (nI 1)) rfl ?_
        refine cn_iand C d_X4_hasSameValues_18 ?_
        refine c_st (st' := [.int (nI (sm / 2 ^ k % 2))]) (by rw [and1]) ?_
        refine cn_if_ne C d_X4_hasSameValues_19 (tgt := 25) rfl (by omega) (fun c_19 => ?_) (fun c_19 => ?_)
        · skip
          refine c_iload_n C d_X4_hasSameValues_25 4 rfl ?_
          refine c_iload C d_X4_hasSameValues_26 0 rfl ?_
          refine c_iconst C d_X4_hasSameValues_28 (v := (nI 3)) rfl ?_
          refine cn_irem C d_X4_hasSameValues_29 (by omega) (by omega) (by omega) ?_
          refine k_callP C d_X4_hasSameValues_30 ok_RX4_45 (s_tokenOf t (k % 3) ht (by omega)) (rest := []) rfl rfl (Nat.le_of_ble_eq_true rfl) ⟨⟨by decide, by decide⟩, Nat.le_of_ble_eq_true rfl, Nat.le_of_ble_eq_true rfl⟩ ?_
          show VC G x ad h g 0 0 33 [(4, .int (nI k)), (0, .ref a), (1, .ref (ad 10 s)), (2, .int (nI p)), (3, .int (nI t))] [.int (stT t (k % 3))]
          refine c_istore C d_X4_hasSameValues_33 (lv' := [(5, .int (stT t (k % 3))), (4, .int (nI k)), (0, .ref a), (1, .ref (ad 10 s)), (2, .int (nI p)), (3, .int (nI t))]) (by decide) rfl ?_
          refine c_iload C d_X4_hasSameValues_35 1 rfl ?_
          refine c_iconst C d_X4_hasSameValues_37 (v := (nI 3)) rfl ?_
          refine cn_idiv C d_X4_hasSameValues_38 (by omega) (by omega) (by omega) ?_
          refine c_istore C d_X4_hasSameValues_39 (lv' := [(6, .int (nI (k / 3))), (5, .int (stT t (k % 3))), (4, .int (nI k)), (0, .ref a), (1, .ref (ad 10 s)), (2, .int (nI p)), (3, .int (nI t))]) (by decide) rfl ?_
          refine c_iload C d_X4_hasSameValues_41 1 rfl ?_
          refine c_iconst C d_X4_hasSameValues_43 (v := ((-1))) rfl ?_
          refine c_icmp_eq C d_X4_hasSameValues_44 (tgt := 65) rfl (fun c_44 => ?_) (fun c_44 => ?_)
          · skip
            refine c_iconst C d_X4_hasSameValues_65 (v := (bI false)) rfl ?_
            refine c_st (st' := [.int (bI (allTo (saF g sm t s p) 9))]) (congrArg (fun z => [Value.int (bI z)]) (allTo_F (f := saF g sm t s p) (k := k) (by rw [saF, decide_eq_true (show sm / 2 ^ k % 2 = 1 by omega), decide_eq_true (stT_0 c_44)]; rfl) (by omega)).symm) ?_
            exact k_iret C A cfr_rf TY d_X4_hasSameValues_66 (bI_nar _) (Nat.le_of_ble_eq_true rfl) (Nat.le_of_ble_eq_true rfl) (fun h9 F9 => ⟨rfl, rfl⟩)
          · skip
            obtain ⟨x1, x2⟩ := stT_p c_44
            have x3 := hx k (by omega)
            have x4 : mVal g s (saX t k - 1) (k / 3) < 100 := I.2.1 (3 * (40 * s + (saX t k - 1)) + k / 3) (by omega)
            have x5 : mVal g s p (k / 3) < 100 := I.2.1 (3 * (40 * s + p) + k / 3) (by omega)
            refine c_lve (lv' := [(6, .int (nI (k / 3))), (5, .int (nI (saX t k - 1))), (4, .int (nI k)), (0, .ref a), (1, .ref (ad 10 s)), (2, .int (nI p)), (3, .int (nI t))]) (by rw [x2]) ?_
            refine c_aload_n C d_X4_hasSameValues_47 4 rfl ?_
            refine c_iload C d_X4_hasSameValues_48 1 rfl ?_
            refine c_iload C d_X4_hasSameValues_50 0 rfl ?_
            refine k_callV C d_X4_hasSameValues_52 ok_RX4_39 (k := 10) (i' := s) (fun l h hm hf => k_valueAt hm (by omega) (by omega) (by omega)) (decide_eq_true (by omega)) rfl rfl rfl (rest := []) rfl rfl (Nat.le_of_ble_eq_true rfl) ⟨⟨by decide, by decide⟩, Nat.le_of_ble_eq_true rfl, Nat.le_of_ble_eq_true rfl⟩ (fun v9 g9 hq2 e9 F2 => ?_)
            obtain ⟨rfl, z2⟩ := e9
            refine c_eq z2 ?_
            refine c_base F2 ?_
            show VC G x ad h g 0 0 55 [(6, .int (nI (k / 3))), (5, .int (nI (saX t k - 1))), (4, .int (nI k)), (0, .ref a), (1, .ref (ad 10 s)), (2, .int (nI p)), (3, .int (nI t))] [.int (nI (mVal g s (saX t k - 1) (k / 3)))]
            refine c_aload_n C d_X4_hasSameValues_55 4 rfl ?_
            refine c_iload_n C d_X4_hasSameValues_56 5 rfl ?_
            refine c_iload C d_X4_hasSameValues_57 0 rfl ?_
            refine k_callV C d_X4_hasSameValues_59 ok_RX4_39 (k := 10) (i' := s) (fun l h hm hf => k_valueAt hm (by omega) (by omega) (by omega)) (decide_eq_true (by omega)) rfl rfl rfl (rest := [.int (nI (mVal g s (saX t k - 1) (k / 3)))]) rfl rfl (Nat.le_of_ble_eq_true rfl) ⟨⟨by decide, by decide⟩, Nat.le_of_ble_eq_true rfl, Nat.le_of_ble_eq_true rfl⟩ (fun v9 g9 hq3 e9 F3 => ?_)
            obtain ⟨rfl, z3⟩ := e9
            refine c_eq z3 ?_
            refine c_base F3 ?_
            show VC G x ad h g 0 0 62 [(6, .int (nI (k / 3))), (5, .int (nI (saX t k - 1))), (4, .int (nI k)), (0, .ref a), (1, .ref (ad 10 s)), (2, .int (nI p)), (3, .int (nI t))] [.int (nI (mVal g s p (k / 3))), .int (nI (mVal g s (saX t k - 1) (k / 3)))]
            refine cn_icmp_eq C d_X4_hasSameValues_62 (tgt := 67) rfl (by omega) (by omega) (fun c_62 => ?_) (fun c_62 => ?_)
            · skip
              refine cn_iinc C d_X4_hasSameValues_67 (lv' := [(4, .int (nI (k + 1))), (6, .int (nI (k / 3))), (5, .int (nI (saX t k - 1))), (0, .ref a), (1, .ref (ad 10 s)), (2, .int (nI p)), (3, .int (nI t))]) 2 rfl (nI_inc _ rfl) (by decide) rfl ?_
              refine c_goto C d_X4_hasSameValues_70 (tgt := 3) rfl ?_
              refine c_lv (lv' := [(4, .int (nI (k + 1))), (0, .ref a), (1, .ref (ad 10 s)), (2, .int (nI p)), (3, .int (nI t))]) [0, 3, 4, 5, 6] rfl ?_
              exact ih_3 (k + 1) (by omega) (allTo_T hz (by rw [saF, decide_eq_false (show ¬ saX t k = 0 by omega), decide_eq_true c_62]; simp)) (by omega)
            · skip
              refine c_iconst C d_X4_hasSameValues_65 (v := (bI false)) rfl ?_
              refine c_st (st' := [.int (bI (allTo (saF g sm t s p) 9))]) (congrArg (fun z => [Value.int (bI z)]) (allTo_F (f := saF g sm t s p) (k := k) (by rw [saF, decide_eq_true (show sm / 2 ^ k % 2 = 1 by omega), decide_eq_false c_62, Bool.and_false]; rfl) (by omega)).symm) ?_
              exact k_iret C A cfr_rf TY d_X4_hasSameValues_66 (bI_nar _) (Nat.le_of_ble_eq_true rfl) (Nat.le_of_ble_eq_true rfl) (fun h9 F9 => ⟨rfl, rfl⟩)
        · skip
          refine c_goto C d_X4_hasSameValues_22 (tgt := 67) rfl ?_
          refine cn_iinc C d_X4_hasSameValues_67 (lv' := [(4, .int (nI (k + 1))), (0, .ref a), (1, .ref (ad 10 s)), (2, .int (nI p)), (3, .int (nI t))]) 0 rfl (nI_inc _ rfl) (by decide) rfl ?_
          refine c_goto C d_X4_hasSameValues_70 (tgt := 3) rfl ?_
          exact ih_3 (k + 1) (by omega) (allTo_T hz (by rw [saF, decide_eq_false (by omega)]; rfl)) (by omega)
  exact loop_3 _ 0 (by omega) (rfl) (Nat.lt_succ_self _)
