theorem tw_87 : (Jvm.Cond.fieldLink "Corpusline" (188 : Nat) "Corpusline$Result" "side" "I") ∈ TB := tb_of 87 (by decide +kernel) rfl
theorem tw_89 : (Jvm.Cond.fieldLink "Corpusline" (178 : Nat) "Corpusline$Result" "lengths" "[I") ∈ TB := tb_of 89 (by decide +kernel) rfl
theorem tw_563 : (Jvm.Cond.methodLink "Corpusline" (193 : Nat) ({ cls := "Corpusline", name := "joined", desc := "(III)I" } : Jvm.MethodName)) ∈ TB := tb_of 563 (by decide +kernel) rfl
theorem tw_564 : (Jvm.Cond.static ({ cls := "Corpusline", name := "joined", desc := "(III)I" } : Jvm.MethodName)) ∈ TB := tb_of 564 (by decide +kernel) rfl
theorem tw_565 : (Jvm.Cond.code ({ cls := "Corpusline", name := "joined", desc := "(III)I" } : Jvm.MethodName) prog_1_method_39_code (3 : Nat) (Option.some Jvm.ClassFile.FieldType.int)) ∈ TB := tb_of 565 (by decide +kernel) rfl
theorem tw_573 : (Jvm.Cond.methodLink "Corpusline" (196 : Nat) ({ cls := "java/lang/Integer", name := "highestOneBit", desc := "(I)I" } : Jvm.MethodName)) ∈ TB := tb_of 573 (by decide +kernel) rfl
theorem tw_574 : (Jvm.Cond.static ({ cls := "java/lang/Integer", name := "highestOneBit", desc := "(I)I" } : Jvm.MethodName)) ∈ TB := tb_of 574 (by decide +kernel) rfl
theorem tw_575 : (Jvm.Cond.code ({ cls := "java/lang/Integer", name := "highestOneBit", desc := "(I)I" } : Jvm.MethodName) prog_14_method_45_code (1 : Nat) (Option.some Jvm.ClassFile.FieldType.int)) ∈ TB := tb_of 575 (by decide +kernel) rfl
theorem tw_581 : (Jvm.Cond.methodLink "Corpusline" (202 : Nat) ({ cls := "java/lang/Integer", name := "numberOfTrailingZeros", desc := "(I)I" } : Jvm.MethodName)) ∈ TB := tb_of 581 (by decide +kernel) rfl
theorem tw_582 : (Jvm.Cond.static ({ cls := "java/lang/Integer", name := "numberOfTrailingZeros", desc := "(I)I" } : Jvm.MethodName)) ∈ TB := tb_of 582 (by decide +kernel) rfl
theorem tw_583 : (Jvm.Cond.code ({ cls := "java/lang/Integer", name := "numberOfTrailingZeros", desc := "(I)I" } : Jvm.MethodName) prog_14_method_48_code (2 : Nat) (Option.some Jvm.ClassFile.FieldType.int)) ∈ TB := tb_of 583 (by decide +kernel) rfl
theorem fd_RX6_178 : fdOk RX6 178 1 2 := ⟨_, _, _, rfl, by decide, cw_1, tw_89, rfl⟩
theorem fd_RX6_188 : fdOk RX6 188 1 1 := ⟨_, _, _, rfl, by decide, cw_1, tw_87, rfl⟩
theorem ok_RX6_193 : okS RX6 193 yX6_joined cX6_joined 3 (Option.some Jvm.ClassFile.FieldType.int) 3 := ⟨tw_563, tw_564, tw_1, tw_565, ⟨by decide, by decide, by decide +kernel⟩⟩
theorem ok_RX6_196 : okS RX6 196 yJ6_highestOneBit_0f7a4 cJ6_highestOneBit_0f7a4 1 (Option.some Jvm.ClassFile.FieldType.int) 1 := ⟨tw_573, tw_574, tw_5, tw_575, ⟨by decide, by decide, by decide +kernel⟩⟩
theorem ok_RX6_202 : okS RX6 202 yJ6_numberOfTrailingZeros_0f7a4 cJ6_numberOfTrailingZeros_0f7a4 2 (Option.some Jvm.ClassFile.FieldType.int) 1 := ⟨tw_581, tw_582, tw_5, tw_583, ⟨by decide, by decide, by decide +kernel⟩⟩
theorem or_ev {a b : Nat} (ha : a % 2 = 0) (hb : b % 2 = 0) : (a ||| b) % 2 = 0 := by
  have h := @Nat.or_mod_two_pow a b 1
  simp only [Nat.pow_one] at h
  rw [h, ha, hb]; rfl
theorem and_ev {a b : Nat} (ha : a % 2 = 0) : (a &&& b) % 2 = 0 := by
  have h := @Nat.and_mod_two_pow a b 1
  simp only [Nat.pow_one] at h
  rw [h, ha, Nat.zero_and]
theorem jn_ev {a b w : Nat} (ha : a % 2 = 0) (hb : b % 2 = 0) : jn a b w % 2 = 0 := by
  unfold jn
  split
  · exact or_ev ha hb
  · split
    · exact and_ev ha
    · exact and_ev ha
theorem jo_hl {g : mS} (I : mInv g) {r o w : Nat} (hr : r < 8) (ho : o < 8) : ∀ k, k < 40 → mN (joS g r o w 40) 21 (40 * r + k) < 512 ∧ mN (joS g r o w 40) 21 (40 * r + k) % 2 = 0 := fun k hk => by
  refine ⟨joF_lt I hr ho (by omega), ?_⟩
  show joF g r o w 40 (40 * r + k) % 2 = 0
  unfold joF
  rw [if_pos (by omega), Nat.add_sub_cancel_left]
  exact jn_ev (sz_b I hr k hk).2 (sz_b I ho k hk).2
theorem hb_even {v : Nat} (h1 : v < 512) (h2 : v % 2 = 0) (h3 : hb v 8 = 0) : v = 0 := by
  have h : ∀ v, v < 512 → v % 2 = 0 → hb v 8 = 0 → v = 0 := by decide +kernel
  exact h v h1 h2 h3
theorem hob_0 {v : Nat} (h : hobN v = 0) : hb v 8 = 0 := by
  unfold hobN at h
  split at h
  · assumption
  · have := Nat.two_pow_pos (hb v 8); omega
theorem hob_p {v : Nat} (h : 0 < hobN v) : 0 < hb v 8 ∧ hobN v = 2 ^ hb v 8 := by
  unfold hobN at h ⊢
  split at h
  · omega
  · rename_i c; rw [if_neg c]; exact ⟨by omega, rfl⟩
theorem hob_lt (v : Nat) : hobN v < 512 := by
  unfold hobN
  split
  · omega
  · exact Nat.lt_of_le_of_lt (Nat.pow_le_pow_right (n := 2) (by decide) (hb_le _ 8)) (by decide)
theorem th_hl {g : mS} (I : mInv g) {r : Nat} (hr : r < 8) : ∀ k, k < 40 → mN (thS g r 40) 21 (40 * r + k) < 512 ∧ mN (thS g r 40) 21 (40 * r + k) % 2 = 0 := fun k hk => by
  refine ⟨thF_lt I (by omega), ?_⟩
  show thF g r 40 (40 * r + k) % 2 = 0
  unfold thF
  rw [if_pos (by omega), Nat.add_sub_cancel_left]
  unfold thV
  split
  · rename_i c
    obtain ⟨j, hj⟩ : ∃ j, hb (mN g 21 (40 * r + k)) 8 = j + 1 := ⟨hb (mN g 21 (40 * r + k)) 8 - 1, by omega⟩
    rw [hj, Nat.pow_succ, Nat.mul_mod_left]
  · rfl
def dl_X6_joined : List (Nat × Instr × Nat) := [(0, .iload_n 2, 1), (1, .ifCond .ne 7, 3), (4, .iload_n 0, 1), (5, .iload_n 1, 1), (6, .ior, 1), (7, .ireturn, 1), (8, .iload_n 2, 1), (9, .iconst 1, 1), (10, .if_icmp .ne 9, 3), (13, .iload_n 0, 1), (14, .iload_n 1, 1), (15, .iand, 1), (16, .goto 8, 3), (19, .iload_n 0, 1), (20, .iload_n 1, 1), (21, .iconst (-1), 1), (22, .ixor, 1), (23, .iand, 1), (24, .ireturn, 1)]
theorem dc_X6_joined : dnL cX6_joined dl_X6_joined = true := by decide +kernel
theorem d_X6_joined_0 : dn cX6_joined 0 (.iload_n 2) 1 1 := dnAt dc_X6_joined 0 rfl rfl
theorem d_X6_joined_1 : dn cX6_joined 1 (.ifCond .ne 7) 3 4 := dnAt dc_X6_joined 1 rfl rfl
theorem d_X6_joined_4 : dn cX6_joined 4 (.iload_n 0) 1 5 := dnAt dc_X6_joined 2 rfl rfl
theorem d_X6_joined_5 : dn cX6_joined 5 (.iload_n 1) 1 6 := dnAt dc_X6_joined 3 rfl rfl
theorem d_X6_joined_6 : dn cX6_joined 6 (.ior) 1 7 := dnAt dc_X6_joined 4 rfl rfl
theorem d_X6_joined_7 : dn cX6_joined 7 (.ireturn) 1 8 := dnAt dc_X6_joined 5 rfl rfl
theorem d_X6_joined_8 : dn cX6_joined 8 (.iload_n 2) 1 9 := dnAt dc_X6_joined 6 rfl rfl
theorem d_X6_joined_9 : dn cX6_joined 9 (.iconst 1) 1 10 := dnAt dc_X6_joined 7 rfl rfl
theorem d_X6_joined_10 : dn cX6_joined 10 (.if_icmp .ne 9) 3 13 := dnAt dc_X6_joined 8 rfl rfl
theorem d_X6_joined_13 : dn cX6_joined 13 (.iload_n 0) 1 14 := dnAt dc_X6_joined 9 rfl rfl
theorem d_X6_joined_14 : dn cX6_joined 14 (.iload_n 1) 1 15 := dnAt dc_X6_joined 10 rfl rfl
theorem d_X6_joined_15 : dn cX6_joined 15 (.iand) 1 16 := dnAt dc_X6_joined 11 rfl rfl
theorem d_X6_joined_16 : dn cX6_joined 16 (.goto 8) 3 19 := dnAt dc_X6_joined 12 rfl rfl
theorem d_X6_joined_19 : dn cX6_joined 19 (.iload_n 0) 1 20 := dnAt dc_X6_joined 13 rfl rfl
theorem d_X6_joined_20 : dn cX6_joined 20 (.iload_n 1) 1 21 := dnAt dc_X6_joined 14 rfl rfl
theorem d_X6_joined_21 : dn cX6_joined 21 (.iconst (-1)) 1 22 := dnAt dc_X6_joined 15 rfl rfl
theorem d_X6_joined_22 : dn cX6_joined 22 (.ixor) 1 23 := dnAt dc_X6_joined 16 rfl rfl
theorem d_X6_joined_23 : dn cX6_joined 23 (.iand) 1 24 := dnAt dc_X6_joined 17 rfl rfl
theorem d_X6_joined_24 : dn cX6_joined 24 (.ireturn) 1 25 := dnAt dc_X6_joined 18 rfl rfl
set_option maxHeartbeats 4000000 in
set_option maxRecDepth 100000 in
theorem s_joined (a b w : Nat) (hw : w < 3) : sC yX6_joined cX6_joined 3 (Option.some Jvm.ClassFile.FieldType.int) { frames := 0, cells := 0, slots := 0, locals := 0 } [.int (nI a), .int (nI b), .int (nI w)] (some (.int (nI (jn a b w)))) := by
  refine sC.of (by decide) (Nat.le_of_ble_eq_true rfl) ?_
  intro G x h C A TY
  show VV G x 0 0 h 0 [(0, .int (nI a)), (1, .int (nI b)), (2, .int (nI w))] []
  refine r_iload_n C d_X6_joined_0 2 rfl ?_
  refine rn_if_ne C d_X6_joined_1 (tgt := 8) rfl (by omega) (fun c_1 => ?_) (fun c_1 => ?_)
  · skip
    refine r_iload_n C d_X6_joined_8 2 rfl ?_
    refine r_iconst C d_X6_joined_9 (v := (nI 1)) rfl ?_
    have join_24 : VV G x 0 0 h 24 [(0, .int (nI a)), (1, .int (nI b)), (2, .int (nI w))] [.int (nI (jn a b w))] := by
      exact r_iret C A TY d_X6_joined_24 rfl (by decide) (by decide) (⟨rfl, rfl⟩)
    refine rn_icmp_ne C d_X6_joined_10 (tgt := 19) rfl (by omega) (by omega) (fun c_10 => ?_) (fun c_10 => ?_)
    · skip
      refine r_iload_n C d_X6_joined_19 0 rfl ?_
      refine r_iload_n C d_X6_joined_20 1 rfl ?_
      refine r_iconst C d_X6_joined_21 (v := ((-1))) rfl ?_
      refine r_ixor C d_X6_joined_22 ?_
      refine r_iand C d_X6_joined_23 ?_
      refine r_st (st' := [.int (nI (a &&& (b ^^^ 4294967295)))]) (by rw [nI_andN]) ?_
      refine r_st (st' := [.int (nI (jn a b w))]) (by rw [jn, if_neg (by omega), if_neg c_10]) ?_
      exact join_24  
    · skip
      refine r_iload_n C d_X6_joined_13 0 rfl ?_
      refine r_iload_n C d_X6_joined_14 1 rfl ?_
      refine rn_iand C d_X6_joined_15 ?_
      refine r_goto C d_X6_joined_16 (tgt := 24) rfl ?_
      refine r_st (st' := [.int (nI (jn a b w))]) (by rw [jn, if_neg (by omega), if_pos c_10]) ?_
      exact join_24  
  · skip
    refine r_iload_n C d_X6_joined_4 0 rfl ?_
    refine r_iload_n C d_X6_joined_5 1 rfl ?_
    refine rn_ior C d_X6_joined_6 ?_
    refine r_st (st' := [.int (nI (jn a b w))]) (by rw [jn, if_pos c_1]) ?_
    exact r_iret C A TY d_X6_joined_7 rfl (by decide) (by decide) (⟨rfl, rfl⟩)
def dl_X6_join : List (Nat × Instr × Nat) := [(0, .aload_n 0, 1), (1, .iload_n 1, 1), (2, .invokevirtual 184, 3), (5, .astore 4, 2), (7, .aload_n 0, 1), (8, .iload_n 2, 1), (9, .invokevirtual 184, 3), (12, .astore 5, 2), (14, .iload_n 3, 1), (15, .iconst 0, 1), (16, .iconst 2, 1), (17, .invokestatic 57, 3), (20, .aload 4, 2), (22, .getfield 188, 3), (25, .aload 5, 2), (27, .getfield 188, 3), (30, .if_icmp .eq 13, 3), (33, .new 64, 3), (36, .dup, 1), (37, .ldc 191, 2), (39, .invokespecial 68, 3), (42, .athrow, 1), (43, .iconst 0, 1), (44, .istore 6, 2), (46, .iload 6, 2), (48, .bipush 40, 2), (50, .if_icmp .ge 37, 3), (53, .aload 4, 2), (55, .getfield 178, 3), (58, .iload 6, 2), (60, .aload 4, 2), (62, .getfield 178, 3), (65, .iload 6, 2), (67, .iaload, 1), (68, .aload 5, 2), (70, .getfield 178, 3), (73, .iload 6, 2), (75, .iaload, 1), (76, .iload_n 3, 1), (77, .invokestatic 193, 3), (80, .iastore, 1), (81, .iinc 6 1, 3), (84, .goto (-38), 3), (87, .aload 4, 2), (89, .invokevirtual 181, 3), (92, .ireturn, 1)]
theorem dc_X6_join : dnL cX6_join dl_X6_join = true := by decide +kernel
theorem d_X6_join_0 : dn cX6_join 0 (.aload_n 0) 1 1 := dnAt dc_X6_join 0 rfl rfl
theorem d_X6_join_1 : dn cX6_join 1 (.iload_n 1) 1 2 := dnAt dc_X6_join 1 rfl rfl
theorem d_X6_join_2 : dn cX6_join 2 (.invokevirtual 184) 3 5 := dnAt dc_X6_join 2 rfl rfl
theorem d_X6_join_5 : dn cX6_join 5 (.astore 4) 2 7 := dnAt dc_X6_join 3 rfl rfl
theorem d_X6_join_7 : dn cX6_join 7 (.aload_n 0) 1 8 := dnAt dc_X6_join 4 rfl rfl
theorem d_X6_join_8 : dn cX6_join 8 (.iload_n 2) 1 9 := dnAt dc_X6_join 5 rfl rfl
theorem d_X6_join_9 : dn cX6_join 9 (.invokevirtual 184) 3 12 := dnAt dc_X6_join 6 rfl rfl
theorem d_X6_join_12 : dn cX6_join 12 (.astore 5) 2 14 := dnAt dc_X6_join 7 rfl rfl
theorem d_X6_join_14 : dn cX6_join 14 (.iload_n 3) 1 15 := dnAt dc_X6_join 8 rfl rfl
theorem d_X6_join_15 : dn cX6_join 15 (.iconst 0) 1 16 := dnAt dc_X6_join 9 rfl rfl
theorem d_X6_join_16 : dn cX6_join 16 (.iconst 2) 1 17 := dnAt dc_X6_join 10 rfl rfl
theorem d_X6_join_17 : dn cX6_join 17 (.invokestatic 57) 3 20 := dnAt dc_X6_join 11 rfl rfl
theorem d_X6_join_20 : dn cX6_join 20 (.aload 4) 2 22 := dnAt dc_X6_join 12 rfl rfl
theorem d_X6_join_22 : dn cX6_join 22 (.getfield 188) 3 25 := dnAt dc_X6_join 13 rfl rfl
theorem d_X6_join_25 : dn cX6_join 25 (.aload 5) 2 27 := dnAt dc_X6_join 14 rfl rfl
theorem d_X6_join_27 : dn cX6_join 27 (.getfield 188) 3 30 := dnAt dc_X6_join 15 rfl rfl
theorem d_X6_join_30 : dn cX6_join 30 (.if_icmp .eq 13) 3 33 := dnAt dc_X6_join 16 rfl rfl
theorem d_X6_join_33 : dn cX6_join 33 (.new 64) 3 36 := dnAt dc_X6_join 17 rfl rfl
theorem d_X6_join_36 : dn cX6_join 36 (.dup) 1 37 := dnAt dc_X6_join 18 rfl rfl
theorem d_X6_join_37 : dn cX6_join 37 (.ldc 191) 2 39 := dnAt dc_X6_join 19 rfl rfl
theorem d_X6_join_39 : dn cX6_join 39 (.invokespecial 68) 3 42 := dnAt dc_X6_join 20 rfl rfl
theorem d_X6_join_42 : dn cX6_join 42 (.athrow) 1 43 := dnAt dc_X6_join 21 rfl rfl
theorem d_X6_join_43 : dn cX6_join 43 (.iconst 0) 1 44 := dnAt dc_X6_join 22 rfl rfl
theorem d_X6_join_44 : dn cX6_join 44 (.istore 6) 2 46 := dnAt dc_X6_join 23 rfl rfl
theorem d_X6_join_46 : dn cX6_join 46 (.iload 6) 2 48 := dnAt dc_X6_join 24 rfl rfl
theorem d_X6_join_48 : dn cX6_join 48 (.bipush 40) 2 50 := dnAt dc_X6_join 25 rfl rfl
theorem d_X6_join_50 : dn cX6_join 50 (.if_icmp .ge 37) 3 53 := dnAt dc_X6_join 26 rfl rfl
theorem d_X6_join_53 : dn cX6_join 53 (.aload 4) 2 55 := dnAt dc_X6_join 27 rfl rfl
theorem d_X6_join_55 : dn cX6_join 55 (.getfield 178) 3 58 := dnAt dc_X6_join 28 rfl rfl
theorem d_X6_join_58 : dn cX6_join 58 (.iload 6) 2 60 := dnAt dc_X6_join 29 rfl rfl
theorem d_X6_join_60 : dn cX6_join 60 (.aload 4) 2 62 := dnAt dc_X6_join 30 rfl rfl
theorem d_X6_join_62 : dn cX6_join 62 (.getfield 178) 3 65 := dnAt dc_X6_join 31 rfl rfl
theorem d_X6_join_65 : dn cX6_join 65 (.iload 6) 2 67 := dnAt dc_X6_join 32 rfl rfl
theorem d_X6_join_67 : dn cX6_join 67 (.iaload) 1 68 := dnAt dc_X6_join 33 rfl rfl
theorem d_X6_join_68 : dn cX6_join 68 (.aload 5) 2 70 := dnAt dc_X6_join 34 rfl rfl
theorem d_X6_join_70 : dn cX6_join 70 (.getfield 178) 3 73 := dnAt dc_X6_join 35 rfl rfl
theorem d_X6_join_73 : dn cX6_join 73 (.iload 6) 2 75 := dnAt dc_X6_join 36 rfl rfl
theorem d_X6_join_75 : dn cX6_join 75 (.iaload) 1 76 := dnAt dc_X6_join 37 rfl rfl
theorem d_X6_join_76 : dn cX6_join 76 (.iload_n 3) 1 77 := dnAt dc_X6_join 38 rfl rfl
theorem d_X6_join_77 : dn cX6_join 77 (.invokestatic 193) 3 80 := dnAt dc_X6_join 39 rfl rfl
theorem d_X6_join_80 : dn cX6_join 80 (.iastore) 1 81 := dnAt dc_X6_join 40 rfl rfl
theorem d_X6_join_81 : dn cX6_join 81 (.iinc 6 1) 3 84 := dnAt dc_X6_join 41 rfl rfl
theorem d_X6_join_84 : dn cX6_join 84 (.goto (-38)) 3 87 := dnAt dc_X6_join 42 rfl rfl
theorem d_X6_join_87 : dn cX6_join 87 (.aload 4) 2 89 := dnAt dc_X6_join 43 rfl rfl
theorem d_X6_join_89 : dn cX6_join 89 (.invokevirtual 181) 3 92 := dnAt dc_X6_join 44 rfl rfl
theorem d_X6_join_92 : dn cX6_join 92 (.ireturn) 1 93 := dnAt dc_X6_join 45 rfl rfl
set_option maxHeartbeats 4000000 in
set_option maxRecDepth 100000 in
theorem k_join {l : Launch} {G : eG} {ad : Nat → Nat → Nat} {h : hp} {g : mS} {r o bb : Int32} (hlf : l.stackTraces = false) (hm : co G ad g h) (I : mInv g) (J : rInv g) : kX l G ad h yX6_join cX6_join 7 (Option.some Jvm.ClassFile.FieldType.int) { frames := 7, cells := 4, slots := 24, locals := 112 } [.ref (ad 0 0), .int r, .int o, .int bb] (fun v9 g9 _ => v9 = some (.int (nI (rJoin g r o bb))) ∧ g9 = tJoin g r o bb ∧ cJoin g r o bb = 0) (fun E9 g9 => (E9 = "java/lang/IndexOutOfBoundsException" ∧ cJoin g r o bb = 1 ∨ E9 = "java/lang/IllegalArgumentException" ∧ cJoin g r o bb = 2 ∨ E9 = "java/lang/IllegalStateException" ∧ cJoin g r o bb = 3) ∧ g9 = g) := by
  refine kX.of hlf hm (by decide) (Nat.le_of_ble_eq_true rfl) ?_
  intro x C A TY X
  show VC G x ad h g 0 0 0 [(0, .ref (ad 0 0)), (1, .int r), (2, .int o), (3, .int bb)] []
  refine c_aload_n C d_X6_join_0 0 rfl ?_
  refine c_iload_n C d_X6_join_1 1 rfl ?_
  refine k_callVX C X cfr_rf d_X6_join_2 ok_RX6_184 (k := 0) (i' := 0) (fun l h hl hm hf => k_knownResult hl hm J r) rfl rfl rfl rfl (rest := []) rfl rfl (Nat.le_of_ble_eq_true rfl) ⟨⟨by decide, by decide⟩, Nat.le_of_ble_eq_true rfl, Nat.le_of_ble_eq_true rfl⟩ (fun _ _ e => ⟨Or.inl ⟨e.1, by rw [cJoin, if_neg (by rw [e.2.1]; exact Bool.false_ne_true)]⟩, e.2.2⟩) (fun v9 g9 hq1 e9 F1 => ?_)
  obtain ⟨rfl, z1, i1⟩ := e9
  refine c_eq z1 ?_
  obtain ⟨j1, s1, t1⟩ := mIsR_of i1
  refine c_base F1 ?_
  show VC G x ad h g 1 6 5 [(0, .ref (ad 0 0)), (1, .int r), (2, .int o), (3, .int bb)] [.ref (ad 20 (tn r))]
  refine c_astore C d_X6_join_5 (lv' := [(4, .ref (ad 20 (tn r))), (0, .ref (ad 0 0)), (1, .int r), (2, .int o), (3, .int bb)]) (by decide) rfl ?_
  refine c_aload_n C d_X6_join_7 1 rfl ?_
  refine c_iload_n C d_X6_join_8 3 rfl ?_
  refine k_callVX C X cfr_rf d_X6_join_9 ok_RX6_184 (k := 0) (i' := 0) (fun l h hl hm hf => k_knownResult hl hm J o) rfl rfl rfl rfl (rest := []) rfl rfl (Nat.le_of_ble_eq_true rfl) ⟨⟨by decide, by decide⟩, Nat.le_of_ble_eq_true rfl, Nat.le_of_ble_eq_true rfl⟩ (fun _ _ e => ⟨Or.inl ⟨e.1, by rw [cJoin, if_neg (by rw [i1, e.2.1]; decide)]⟩, e.2.2⟩) (fun v9 g9 hq2 e9 F2 => ?_)
  obtain ⟨rfl, z2, i2⟩ := e9
  refine c_eq z2 ?_
  obtain ⟨j2, s2, t2⟩ := mIsR_of i2
  refine c_base F2 ?_
  show VC G x ad h g 2 12 12 [(4, .ref (ad 20 (tn r))), (0, .ref (ad 0 0)), (1, .int r), (2, .int o), (3, .int bb)] [.ref (ad 20 (tn o))]
  refine c_astore C d_X6_join_12 (lv' := [(5, .ref (ad 20 (tn o))), (4, .ref (ad 20 (tn r))), (0, .ref (ad 0 0)), (1, .int r), (2, .int o), (3, .int bb)]) (by decide) rfl ?_
  refine c_iload_n C d_X6_join_14 5 rfl ?_
  refine c_iconst C d_X6_join_15 (v := (nI 0)) rfl ?_
  refine c_iconst C d_X6_join_16 (v := (nI 2)) rfl ?_
  refine k_callSX C X cfr_rf d_X6_join_17 ok_RX6_57 (fun l h hl hm hf => k_demandRange hl hm bb ((nI 0)) ((nI 2))) (rest := []) rfl rfl (Nat.le_of_ble_eq_true rfl) ⟨⟨by decide, by decide⟩, Nat.le_of_ble_eq_true rfl, Nat.le_of_ble_eq_true rfl⟩ (fun _ _ e => ⟨Or.inr (Or.inl ⟨e.1, by rw [cJoin, if_pos (by rw [i1, i2]; rfl), if_neg (by rw [show inR bb 0 2 = false from e.2.1]; decide)]⟩), e.2.2⟩) (fun v9 g9 hq3 e9 F3 => ?_)
  obtain ⟨rfl, z3, i3⟩ := e9
  refine c_eq z3 ?_
  refine c_base F3 ?_
  show VC G x ad h g 3 18 20 [(5, .ref (ad 20 (tn o))), (4, .ref (ad 20 (tn r))), (0, .ref (ad 0 0)), (1, .int r), (2, .int o), (3, .int bb)] []
  replace i3 : inR bb 0 2 = true := i3
  obtain ⟨j3, -, s3⟩ := inR_of i3 (by decide) (by decide)
  have q1 := (J (tn r) s1).2 t1
  have q2 := (J (tn o) s2).2 t2
  refine c_lve (lv' := [(5, .ref (ad 20 (tn o))), (4, .ref (ad 20 (tn r))), (0, .ref (ad 0 0)), (1, .int (nI (tn r))), (2, .int (nI (tn o))), (3, .int (nI (tn bb)))]) (by rw [← j1, ← j2, ← j3]) ?_
  refine c_aload C d_X6_join_20 1 rfl ?_
  refine c_get C d_X6_join_22 fd_RX6_188 (k := 20) (i' := tn r) (decide_eq_true (by omega)) rfl (v := .int (nI (mN g 54 (tn r)))) rfl ?_
  refine c_aload C d_X6_join_25 0 rfl ?_
  refine c_get C d_X6_join_27 fd_RX6_188 (k := 20) (i' := tn o) (decide_eq_true (by omega)) rfl (v := .int (nI (mN g 54 (tn o)))) rfl ?_
  refine cn_icmp_eq C d_X6_join_30 (tgt := 43) rfl (by omega) (by omega) (fun c_30 => ?_) (fun c_30 => ?_)
  · skip
    refine c_K0 (c := 0) ?_
    have z0 : cJoin g r o bb = 0 := by rw [cJoin, if_pos (by rw [i1, i2]; rfl), if_pos i3, if_pos (by rw [q1.1, q2.1, c_30])]
    refine c_iconst C d_X6_join_43 (v := (nI 0)) rfl ?_
    refine c_istore C d_X6_join_44 (lv' := [(6, .int (nI 0)), (5, .ref (ad 20 (tn o))), (4, .ref (ad 20 (tn r))), (0, .ref (ad 0 0)), (1, .int (nI (tn r))), (2, .int (nI (tn o))), (3, .int (nI (tn bb)))]) (by decide) rfl ?_
    have loop_46 : ∀ (fuel : Nat) (k : Nat), (k ≤ 40) → (41 - k) < fuel → VC G x ad h (joS g (tn r) (tn o) (tn bb) k) 3 18 46 [(6, .int (nI k)), (5, .ref (ad 20 (tn o))), (4, .ref (ad 20 (tn r))), (0, .ref (ad 0 0)), (1, .int (nI (tn r))), (2, .int (nI (tn o))), (3, .int (nI (tn bb)))] [] := by
      intro fuel
      induction fuel with
      | zero => intro k hk hf9; exact absurd hf9 (Nat.not_lt_zero _)
      | succ fuel ih_46 =>
        intro k hk hf9
        refine c_iload C d_X6_join_46 0 rfl ?_
        refine c_bipush C d_X6_join_48 (v := (nI 40)) rfl ?_
        refine cn_icmp_ge C d_X6_join_50 (tgt := 87) rfl (by omega) (by omega) (fun c_50 => ?_) (fun c_50 => ?_)
        · skip
          obtain rfl : k = 40 := by omega
          refine c_aload C d_X6_join_87 2 rfl ?_
          refine k_callV C d_X6_join_89 ok_RX6_181 (k := 20) (i' := tn r) (fun l h hm hf => k_matchCount hm (by omega) (jo_hl I s1 s2)) (decide_eq_true (by omega)) rfl rfl rfl (rest := []) rfl rfl (Nat.le_of_ble_eq_true rfl) ⟨⟨by decide, by decide⟩, Nat.le_of_ble_eq_true rfl, Nat.le_of_ble_eq_true rfl⟩ (fun v9 g9 hq4 e9 F4 => ?_)
          obtain ⟨rfl, z4⟩ := e9
          refine c_eq z4 ?_
          refine c_base F4 ?_
          show VC G x ad h (joS g (tn r) (tn o) (tn bb) 40) 3 18 92 [(6, .int (nI 40)), (5, .ref (ad 20 (tn o))), (4, .ref (ad 20 (tn r))), (0, .ref (ad 0 0)), (1, .int (nI (tn r))), (2, .int (nI (tn o))), (3, .int (nI (tn bb)))] [.int (nI (mSize (joS g (tn r) (tn o) (tn bb) 40) (tn r)))]
          refine c_st (st' := [.int (nI (rJoin g r o bb))]) (by rw [rJoin, if_pos z0, tJoin, if_pos z0]) ?_
          exact k_iret C A cfr_rf TY d_X6_join_92 rfl (Nat.le_of_ble_eq_true rfl) (Nat.le_of_ble_eq_true rfl) (fun h9 F9 => ⟨rfl, by rw [tJoin, if_pos z0], z0⟩)
        · skip
          refine c_aload C d_X6_join_53 2 rfl ?_
          refine c_get C d_X6_join_55 fd_RX6_178 (k := 20) (i' := tn r) (decide_eq_true (by omega)) rfl (v := .ref (ad 21 (tn r))) rfl ?_
          refine c_iload C d_X6_join_58 0 rfl ?_
          refine c_aload C d_X6_join_60 2 rfl ?_
          refine c_get C d_X6_join_62 fd_RX6_178 (k := 20) (i' := tn r) (decide_eq_true (by omega)) rfl (v := .ref (ad 21 (tn r))) rfl ?_
          refine c_iload C d_X6_join_65 0 rfl ?_
          refine c_ald C d_X6_join_67 (k := 21) (i := tn r) (decide_eq_true (by omega)) rfl (by show _ < 40; omega) ?_
          refine c_st (st' := [.int (nI (mN g 21 (40 * tn r + k))), .int (nI k), .ref (ad 21 (tn r))]) (by rw [jo_r (by omega) (Or.inl rfl)]) ?_
          refine c_aload C d_X6_join_68 1 rfl ?_
          refine c_get C d_X6_join_70 fd_RX6_178 (k := 20) (i' := tn o) (decide_eq_true (by omega)) rfl (v := .ref (ad 21 (tn o))) rfl ?_
          refine c_iload C d_X6_join_73 0 rfl ?_
          refine c_ald C d_X6_join_75 (k := 21) (i := tn o) (decide_eq_true (by omega)) rfl (by show _ < 40; omega) ?_
          refine c_st (st' := [.int (nI (mN g 21 (40 * tn o + k))), .int (nI (mN g 21 (40 * tn r + k))), .int (nI k), .ref (ad 21 (tn r))]) (by rw [jo_r (by omega) (Or.inr rfl)]) ?_
          refine c_iload_n C d_X6_join_76 6 rfl ?_
          refine k_callP C d_X6_join_77 ok_RX6_193 (s_joined (mN g 21 (40 * tn r + k)) (mN g 21 (40 * tn o + k)) (tn bb) (by omega)) (rest := [.int (nI k), .ref (ad 21 (tn r))]) rfl rfl (Nat.le_of_ble_eq_true rfl) ⟨⟨by decide, by decide⟩, Nat.le_of_ble_eq_true rfl, Nat.le_of_ble_eq_true rfl⟩ ?_
          show VC G x ad h (joS g (tn r) (tn o) (tn bb) k) 3 18 80 [(6, .int (nI k)), (5, .ref (ad 20 (tn o))), (4, .ref (ad 20 (tn r))), (0, .ref (ad 0 0)), (1, .int (nI (tn r))), (2, .int (nI (tn o))), (3, .int (nI (tn bb)))] [.int (nI (jn (mN g 21 (40 * tn r + k)) (mN g 21 (40 * tn o + k)) (tn bb))), .int (nI k), .ref (ad 21 (tn r))]
          refine c_ast C d_X6_join_80 (k := 21) (i := tn r) (v := jn (mN g 21 (40 * tn r + k)) (mN g 21 (40 * tn o + k)) (tn bb)) (decide_eq_true (by omega)) rfl (by show _ < 40; omega) ?_
          refine cn_iinc C d_X6_join_81 (lv' := [(6, .int (nI (k + 1))), (5, .ref (ad 20 (tn o))), (4, .ref (ad 20 (tn r))), (0, .ref (ad 0 0)), (1, .int (nI (tn r))), (2, .int (nI (tn o))), (3, .int (nI (tn bb)))]) 0 rfl (nI_inc _ rfl) (by decide) rfl ?_
          refine c_goto C d_X6_join_84 (tgt := 46) rfl ?_
          refine c_eq (g' := joS g (tn r) (tn o) (tn bb) (k + 1)) (jo_step (by omega)) ?_
          exact ih_46 (k + 1) (by omega) (by omega)
    refine c_eq (g' := joS g (tn r) (tn o) (tn bb) 0) (jo_init) ?_
    exact loop_46 _ 0 (by omega) (Nat.lt_succ_self _)
  · skip
    exact k_throw C X cfr_rf d_X6_join_33 d_X6_join_36 d_X6_join_37 d_X6_join_39 d_X6_join_42 th_64 (text := "results of unlike sides") (by decide) ⟨by decide, Nat.le_of_ble_eq_true rfl, Nat.le_of_ble_eq_true rfl, Nat.le_of_ble_eq_true rfl⟩ (⟨Or.inr (Or.inr (⟨rfl, by rw [cJoin, if_pos (by rw [i1, i2]; rfl), if_pos i3, if_neg (fun z => c_30 (nI_inj (by omega) (by omega) (by rw [← q1.1, ← q2.1, z])))]⟩)), rfl⟩)
def dl_X6_thin : List (Nat × Instr × Nat) := [(0, .aload_n 0, 1), (1, .iload_n 1, 1), (2, .invokevirtual 184, 3), (5, .astore_n 2, 1), (6, .iconst 0, 1), (7, .istore_n 3, 1), (8, .iconst 0, 1), (9, .istore 4, 2), (11, .iload 4, 2), (13, .bipush 40, 2), (15, .if_icmp .ge 61, 3), (18, .aload_n 2, 1), (19, .getfield 178, 3), (22, .iload 4, 2), (24, .iaload, 1), (25, .invokestatic 196, 3), (28, .istore 5, 2), (30, .iload 4, 2), (32, .iload_n 3, 1), (33, .if_icmp .ge 14, 3), (36, .aload_n 2, 1), (37, .getfield 178, 3), (40, .iload 4, 2), (42, .iconst 0, 1), (43, .iastore, 1), (44, .goto 26, 3), (47, .iload 5, 2), (49, .ifCond .eq 21, 3), (52, .aload_n 2, 1), (53, .getfield 178, 3), (56, .iload 4, 2), (58, .iload 5, 2), (60, .iastore, 1), (61, .iload 4, 2), (63, .iload 5, 2), (65, .invokestatic 202, 3), (68, .iadd, 1), (69, .istore_n 3, 1), (70, .iinc 4 1, 3), (73, .goto (-62), 3), (76, .aload_n 2, 1), (77, .invokevirtual 181, 3), (80, .ireturn, 1)]
theorem dc_X6_thin : dnL cX6_thin dl_X6_thin = true := by decide +kernel
theorem d_X6_thin_0 : dn cX6_thin 0 (.aload_n 0) 1 1 := dnAt dc_X6_thin 0 rfl rfl
theorem d_X6_thin_1 : dn cX6_thin 1 (.iload_n 1) 1 2 := dnAt dc_X6_thin 1 rfl rfl
theorem d_X6_thin_2 : dn cX6_thin 2 (.invokevirtual 184) 3 5 := dnAt dc_X6_thin 2 rfl rfl
theorem d_X6_thin_5 : dn cX6_thin 5 (.astore_n 2) 1 6 := dnAt dc_X6_thin 3 rfl rfl
theorem d_X6_thin_6 : dn cX6_thin 6 (.iconst 0) 1 7 := dnAt dc_X6_thin 4 rfl rfl
theorem d_X6_thin_7 : dn cX6_thin 7 (.istore_n 3) 1 8 := dnAt dc_X6_thin 5 rfl rfl
theorem d_X6_thin_8 : dn cX6_thin 8 (.iconst 0) 1 9 := dnAt dc_X6_thin 6 rfl rfl
theorem d_X6_thin_9 : dn cX6_thin 9 (.istore 4) 2 11 := dnAt dc_X6_thin 7 rfl rfl
theorem d_X6_thin_11 : dn cX6_thin 11 (.iload 4) 2 13 := dnAt dc_X6_thin 8 rfl rfl
theorem d_X6_thin_13 : dn cX6_thin 13 (.bipush 40) 2 15 := dnAt dc_X6_thin 9 rfl rfl
theorem d_X6_thin_15 : dn cX6_thin 15 (.if_icmp .ge 61) 3 18 := dnAt dc_X6_thin 10 rfl rfl
theorem d_X6_thin_18 : dn cX6_thin 18 (.aload_n 2) 1 19 := dnAt dc_X6_thin 11 rfl rfl
theorem d_X6_thin_19 : dn cX6_thin 19 (.getfield 178) 3 22 := dnAt dc_X6_thin 12 rfl rfl
theorem d_X6_thin_22 : dn cX6_thin 22 (.iload 4) 2 24 := dnAt dc_X6_thin 13 rfl rfl
theorem d_X6_thin_24 : dn cX6_thin 24 (.iaload) 1 25 := dnAt dc_X6_thin 14 rfl rfl
theorem d_X6_thin_25 : dn cX6_thin 25 (.invokestatic 196) 3 28 := dnAt dc_X6_thin 15 rfl rfl
theorem d_X6_thin_28 : dn cX6_thin 28 (.istore 5) 2 30 := dnAt dc_X6_thin 16 rfl rfl
theorem d_X6_thin_30 : dn cX6_thin 30 (.iload 4) 2 32 := dnAt dc_X6_thin 17 rfl rfl
theorem d_X6_thin_32 : dn cX6_thin 32 (.iload_n 3) 1 33 := dnAt dc_X6_thin 18 rfl rfl
theorem d_X6_thin_33 : dn cX6_thin 33 (.if_icmp .ge 14) 3 36 := dnAt dc_X6_thin 19 rfl rfl
theorem d_X6_thin_36 : dn cX6_thin 36 (.aload_n 2) 1 37 := dnAt dc_X6_thin 20 rfl rfl
theorem d_X6_thin_37 : dn cX6_thin 37 (.getfield 178) 3 40 := dnAt dc_X6_thin 21 rfl rfl
theorem d_X6_thin_40 : dn cX6_thin 40 (.iload 4) 2 42 := dnAt dc_X6_thin 22 rfl rfl
theorem d_X6_thin_42 : dn cX6_thin 42 (.iconst 0) 1 43 := dnAt dc_X6_thin 23 rfl rfl
theorem d_X6_thin_43 : dn cX6_thin 43 (.iastore) 1 44 := dnAt dc_X6_thin 24 rfl rfl
theorem d_X6_thin_44 : dn cX6_thin 44 (.goto 26) 3 47 := dnAt dc_X6_thin 25 rfl rfl
theorem d_X6_thin_47 : dn cX6_thin 47 (.iload 5) 2 49 := dnAt dc_X6_thin 26 rfl rfl
theorem d_X6_thin_49 : dn cX6_thin 49 (.ifCond .eq 21) 3 52 := dnAt dc_X6_thin 27 rfl rfl
theorem d_X6_thin_52 : dn cX6_thin 52 (.aload_n 2) 1 53 := dnAt dc_X6_thin 28 rfl rfl
theorem d_X6_thin_53 : dn cX6_thin 53 (.getfield 178) 3 56 := dnAt dc_X6_thin 29 rfl rfl
theorem d_X6_thin_56 : dn cX6_thin 56 (.iload 4) 2 58 := dnAt dc_X6_thin 30 rfl rfl
theorem d_X6_thin_58 : dn cX6_thin 58 (.iload 5) 2 60 := dnAt dc_X6_thin 31 rfl rfl
theorem d_X6_thin_60 : dn cX6_thin 60 (.iastore) 1 61 := dnAt dc_X6_thin 32 rfl rfl
theorem d_X6_thin_61 : dn cX6_thin 61 (.iload 4) 2 63 := dnAt dc_X6_thin 33 rfl rfl
theorem d_X6_thin_63 : dn cX6_thin 63 (.iload 5) 2 65 := dnAt dc_X6_thin 34 rfl rfl
theorem d_X6_thin_65 : dn cX6_thin 65 (.invokestatic 202) 3 68 := dnAt dc_X6_thin 35 rfl rfl
theorem d_X6_thin_68 : dn cX6_thin 68 (.iadd) 1 69 := dnAt dc_X6_thin 36 rfl rfl
theorem d_X6_thin_69 : dn cX6_thin 69 (.istore_n 3) 1 70 := dnAt dc_X6_thin 37 rfl rfl
theorem d_X6_thin_70 : dn cX6_thin 70 (.iinc 4 1) 3 73 := dnAt dc_X6_thin 38 rfl rfl
theorem d_X6_thin_73 : dn cX6_thin 73 (.goto (-62)) 3 76 := dnAt dc_X6_thin 39 rfl rfl
theorem d_X6_thin_76 : dn cX6_thin 76 (.aload_n 2) 1 77 := dnAt dc_X6_thin 40 rfl rfl
theorem d_X6_thin_77 : dn cX6_thin 77 (.invokevirtual 181) 3 80 := dnAt dc_X6_thin 41 rfl rfl
theorem d_X6_thin_80 : dn cX6_thin 80 (.ireturn) 1 81 := dnAt dc_X6_thin 42 rfl rfl
set_option maxHeartbeats 4000000 in
set_option maxRecDepth 100000 in
theorem k_thin {l : Launch} {G : eG} {ad : Nat → Nat → Nat} {h : hp} {g : mS} {v : Int32} (hlf : l.stackTraces = false) (hm : co G ad g h) (I : mInv g) (J : rInv g) : kX l G ad h yX6_thin cX6_thin 6 (Option.some Jvm.ClassFile.FieldType.int) { frames := 7, cells := 1, slots := 6, locals := 111 } [.ref (ad 0 0), .int v] (fun v9 g9 _ => v9 = some (.int (nI (rThin g v))) ∧ g9 = tThin g v ∧ mIsR g v = true) (fun E9 g9 => (E9 = "java/lang/IndexOutOfBoundsException" ∧ cWR g v = 1) ∧ g9 = g) := by
  refine kX.of hlf hm (by decide) (Nat.le_of_ble_eq_true rfl) ?_
  intro x C A TY X
  show VC G x ad h g 0 0 0 [(0, .ref (ad 0 0)), (1, .int v)] []
  refine c_aload_n C d_X6_thin_0 0 rfl ?_
  refine c_iload_n C d_X6_thin_1 1 rfl ?_
  refine k_callVX C X cfr_rf d_X6_thin_2 ok_RX6_184 (k := 0) (i' := 0) (fun l h hl hm hf => k_knownResult hl hm J v) rfl rfl rfl rfl (rest := []) rfl rfl (Nat.le_of_ble_eq_true rfl) ⟨⟨by decide, by decide⟩, Nat.le_of_ble_eq_true rfl, Nat.le_of_ble_eq_true rfl⟩ (fun _ _ e => ⟨⟨e.1, by rw [cWR, if_neg (by rw [e.2.1]; decide)]⟩, e.2.2⟩) (fun v9 g9 hq1 e9 F1 => ?_)
  obtain ⟨rfl, z1, i1⟩ := e9
  refine c_eq z1 ?_
  obtain ⟨j1, s1, t1⟩ := mIsR_of i1
  refine c_base F1 ?_
  show VC G x ad h g 1 6 5 [(0, .ref (ad 0 0)), (1, .int v)] [.ref (ad 20 (tn v))]
  refine c_lve (lv' := [(0, .ref (ad 0 0)), (1, .int (nI (tn v)))]) (by rw [← j1]) ?_
  refine c_astore_n C d_X6_thin_5 (lv' := [(2, .ref (ad 20 (tn v))), (0, .ref (ad 0 0)), (1, .int (nI (tn v)))]) (by decide) rfl ?_
  refine c_K0 (c := 0) ?_
  refine c_iconst C d_X6_thin_6 (v := (nI 0)) rfl ?_
  refine c_istore_n C d_X6_thin_7 (lv' := [(3, .int (nI 0)), (2, .ref (ad 20 (tn v))), (0, .ref (ad 0 0)), (1, .int (nI (tn v)))]) (by decide) rfl ?_
  refine c_iconst C d_X6_thin_8 (v := (nI 0)) rfl ?_
  refine c_istore C d_X6_thin_9 (lv' := [(4, .int (nI 0)), (3, .int (nI 0)), (2, .ref (ad 20 (tn v))), (0, .ref (ad 0 0)), (1, .int (nI (tn v)))]) (by decide) rfl ?_
  have loop_11 : ∀ (fuel : Nat) (k : Nat), (k ≤ 40) → (41 - k) < fuel → VC G x ad h (thS g (tn v) k) 1 6 11 [(4, .int (nI k)), (3, .int (nI (thE g (tn v) k))), (2, .ref (ad 20 (tn v))), (0, .ref (ad 0 0)), (1, .int (nI (tn v)))] [] := by
    intro fuel
    induction fuel with
    | zero => intro k hk hf9; exact absurd hf9 (Nat.not_lt_zero _)
    | succ fuel ih_11 =>
      intro k hk hf9
      refine c_iload C d_X6_thin_11 0 rfl ?_
      refine c_bipush C d_X6_thin_13 (v := (nI 40)) rfl ?_
      refine cn_icmp_ge C d_X6_thin_15 (tgt := 76) rfl (by omega) (by omega) (fun c_15 => ?_) (fun c_15 => ?_)
      · skip
        obtain rfl : k = 40 := by omega
        refine c_aload_n C d_X6_thin_76 2 rfl ?_
        refine k_callV C d_X6_thin_77 ok_RX6_181 (k := 20) (i' := tn v) (fun l h hm hf => k_matchCount hm (by omega) (th_hl I s1)) (decide_eq_true (by omega)) rfl rfl rfl (rest := []) rfl rfl (Nat.le_of_ble_eq_true rfl) ⟨⟨by decide, by decide⟩, Nat.le_of_ble_eq_true rfl, Nat.le_of_ble_eq_true rfl⟩ (fun v9 g9 hq2 e9 F2 => ?_)
        obtain ⟨rfl, z2⟩ := e9
        refine c_eq z2 ?_
        refine c_base F2 ?_
        show VC G x ad h (thS g (tn v) 40) 1 6 80 [(4, .int (nI 40)), (3, .int (nI (thE g (tn v) 40))), (2, .ref (ad 20 (tn v))), (0, .ref (ad 0 0)), (1, .int (nI (tn v)))] [.int (nI (mSize (thS g (tn v) 40) (tn v)))]
        refine c_st (st' := [.int (nI (rThin g v))]) (by rw [rThin, if_pos i1, tThin, if_pos i1]) ?_
        exact k_iret C A cfr_rf TY d_X6_thin_80 rfl (Nat.le_of_ble_eq_true rfl) (Nat.le_of_ble_eq_true rfl) (fun h9 F9 => ⟨rfl, by rw [tThin, if_pos i1], i1⟩)
      · skip
        have hv := sz_b I s1 k (by omega)
        have ht := thE_le g (tn v) k
        refine c_aload_n C d_X6_thin_18 2 rfl ?_
        refine c_get C d_X6_thin_19 fd_RX6_178 (k := 20) (i' := tn v) (decide_eq_true (by omega)) rfl (v := .ref (ad 21 (tn v))) rfl ?_
        refine c_iload C d_X6_thin_22 0 rfl ?_
        refine c_ald C d_X6_thin_24 (k := 21) (i := tn v) (decide_eq_true (by omega)) rfl (by show _ < 40; omega) ?_
        refine c_st (st' := [.int (nI (mN g 21 (40 * tn v + k)))]) (by rw [th_r]) ?_
        refine k_callP C d_X6_thin_25 ok_RX6_196 (s_hob (mN g 21 (40 * tn v + k)) hv.1 hv.2) (rest := []) rfl rfl (Nat.le_of_ble_eq_true rfl) ⟨⟨by decide, by decide⟩, Nat.le_of_ble_eq_true rfl, Nat.le_of_ble_eq_true rfl⟩ ?_
        show VC G x ad h (thS g (tn v) k) 1 6 28 [(4, .int (nI k)), (3, .int (nI (thE g (tn v) k))), (2, .ref (ad 20 (tn v))), (0, .ref (ad 0 0)), (1, .int (nI (tn v)))] [.int (nI (hobN (mN g 21 (40 * tn v + k))))]
        refine c_istore C d_X6_thin_28 (lv' := [(5, .int (nI (hobN (mN g 21 (40 * tn v + k))))), (4, .int (nI k)), (3, .int (nI (thE g (tn v) k))), (2, .ref (ad 20 (tn v))), (0, .ref (ad 0 0)), (1, .int (nI (tn v)))]) (by decide) rfl ?_
        refine c_iload C d_X6_thin_30 1 rfl ?_
        refine c_iload_n C d_X6_thin_32 2 rfl ?_
        have join_70 : VC G x ad h (thS g (tn v) (k + 1)) 1 6 70 [(4, .int (nI k)), (3, .int (nI (thE g (tn v) (k + 1)))), (2, .ref (ad 20 (tn v))), (0, .ref (ad 0 0)), (1, .int (nI (tn v)))] [] := by
          refine cn_iinc C d_X6_thin_70 (lv' := [(4, .int (nI (k + 1))), (3, .int (nI (thE g (tn v) (k + 1)))), (2, .ref (ad 20 (tn v))), (0, .ref (ad 0 0)), (1, .int (nI (tn v)))]) 0 rfl (nI_inc _ rfl) (by decide) rfl ?_
          refine c_goto C d_X6_thin_73 (tgt := 11) rfl ?_
          exact ih_11 (k + 1) (by omega) (by omega)
        refine cn_icmp_ge C d_X6_thin_33 (tgt := 47) rfl (by omega) (by omega) (fun c_33 => ?_) (fun c_33 => ?_)
        · skip
          refine c_iload C d_X6_thin_47 0 rfl ?_
          refine cn_if_eq C d_X6_thin_49 (tgt := 70) rfl (Nat.lt_trans (hob_lt (mN g 21 (40 * tn v + k))) (by decide)) (fun c_49 => ?_) (fun c_49 => ?_)
          · skip
            refine c_lv (lv' := [(4, .int (nI k)), (3, .int (nI (thE g (tn v) k))), (2, .ref (ad 20 (tn v))), (0, .ref (ad 0 0)), (1, .int (nI (tn v)))]) [1, 2, 3, 4, 5] rfl ?_
            refine c_lve (lv' := [(4, .int (nI k)), (3, .int (nI (thE g (tn v) (k + 1)))), (2, .ref (ad 20 (tn v))), (0, .ref (ad 0 0)), (1, .int (nI (tn v)))]) (by rw [thE, if_neg (by have := hob_0 c_49; omega)]) ?_
            refine c_eq (g' := thS g (tn v) (k + 1)) (by rw [← th_step, show thV g (tn v) k = 0 from if_neg (by have := hob_0 c_49; omega), uN_same (by rw [th_r]; exact hb_even hv.1 hv.2 (hob_0 c_49))]) ?_
            exact join_70  
          · skip
            obtain ⟨p1, p2⟩ := hob_p c_49
            refine c_lve (lv' := [(5, .int (nI (2 ^ hb (mN g 21 (40 * tn v + k)) 8))), (4, .int (nI k)), (3, .int (nI (thE g (tn v) k))), (2, .ref (ad 20 (tn v))), (0, .ref (ad 0 0)), (1, .int (nI (tn v)))]) (by rw [p2]) ?_
            refine c_aload_n C d_X6_thin_52 3 rfl ?_
            refine c_get C d_X6_thin_53 fd_RX6_178 (k := 20) (i' := tn v) (decide_eq_true (by omega)) rfl (v := .ref (ad 21 (tn v))) rfl ?_
            refine c_iload C d_X6_thin_56 1 rfl ?_
            refine c_iload C d_X6_thin_58 0 rfl ?_
            refine c_ast C d_X6_thin_60 (k := 21) (i := tn v) (v := 2 ^ hb (mN g 21 (40 * tn v + k)) 8) (decide_eq_true (by omega)) rfl (by show _ < 40; omega) ?_
            refine c_iload C d_X6_thin_61 1 rfl ?_
            refine c_iload C d_X6_thin_63 0 rfl ?_
            refine k_callP C d_X6_thin_65 ok_RX6_202 (s_ntz (hb (mN g 21 (40 * tn v + k)) 8) (by have := hb_le (mN g 21 (40 * tn v + k)) 8; omega) p1) (rest := [.int (nI k)]) rfl rfl (Nat.le_of_ble_eq_true rfl) ⟨⟨by decide, by decide⟩, Nat.le_of_ble_eq_true rfl, Nat.le_of_ble_eq_true rfl⟩ ?_
            show VC G x ad h (uN (thS g (tn v) k) 21 (40 * (tn v) + k) (2 ^ hb (mN g 21 (40 * tn v + k)) 8)) 1 6 68 [(5, .int (nI (2 ^ hb (mN g 21 (40 * tn v + k)) 8))), (4, .int (nI k)), (3, .int (nI (thE g (tn v) k))), (2, .ref (ad 20 (tn v))), (0, .ref (ad 0 0)), (1, .int (nI (tn v)))] [.int (nI (hb (mN g 21 (40 * tn v + k)) 8)), .int (nI k)]
            refine cn_iadd C d_X6_thin_68 ?_
            refine c_istore_n C d_X6_thin_69 (lv' := [(3, .int (nI (k + (hb (mN g 21 (40 * tn v + k)) 8)))), (5, .int (nI (2 ^ hb (mN g 21 (40 * tn v + k)) 8))), (4, .int (nI k)), (2, .ref (ad 20 (tn v))), (0, .ref (ad 0 0)), (1, .int (nI (tn v)))]) (by decide) rfl ?_
            refine c_lv (lv' := [(4, .int (nI k)), (3, .int (nI (k + (hb (mN g 21 (40 * tn v + k)) 8)))), (2, .ref (ad 20 (tn v))), (0, .ref (ad 0 0)), (1, .int (nI (tn v)))]) [2, 0, 3, 4, 5] rfl ?_
            refine c_lve (lv' := [(4, .int (nI k)), (3, .int (nI (thE g (tn v) (k + 1)))), (2, .ref (ad 20 (tn v))), (0, .ref (ad 0 0)), (1, .int (nI (tn v)))]) (by rw [thE, if_pos ⟨p1, c_33⟩]) ?_
            refine c_eq (g' := thS g (tn v) (k + 1)) (by rw [← th_step, show thV g (tn v) k = 2 ^ hb (mN g 21 (40 * tn v + k)) 8 from if_pos ⟨p1, c_33⟩]) ?_
            exact join_70  
        · skip
          refine c_aload_n C d_X6_thin_36 3 rfl ?_
          refine c_get C d_X6_thin_37 fd_RX6_178 (k := 20) (i' := tn v) (decide_eq_true (by omega)) rfl (v := .ref (ad 21 (tn v))) rfl ?_
          refine c_iload C d_X6_thin_40 1 rfl ?_
          refine c_iconst C d_X6_thin_42 (v := (nI 0)) rfl ?_
          refine c_ast C d_X6_thin_43 (k := 21) (i := tn v) (v := 0) (decide_eq_true (by omega)) rfl (by show _ < 40; omega) ?_
          refine c_goto C d_X6_thin_44 (tgt := 70) rfl ?_
          refine c_lv (lv' := [(4, .int (nI k)), (3, .int (nI (thE g (tn v) k))), (2, .ref (ad 20 (tn v))), (0, .ref (ad 0 0)), (1, .int (nI (tn v)))]) [1, 2, 3, 4, 5] rfl ?_
          refine c_lve (lv' := [(4, .int (nI k)), (3, .int (nI (thE g (tn v) (k + 1)))), (2, .ref (ad 20 (tn v))), (0, .ref (ad 0 0)), (1, .int (nI (tn v)))]) (by rw [thE, if_neg (by omega)]) ?_
          refine c_eq (g' := thS g (tn v) (k + 1)) (by rw [← th_step, show thV g (tn v) k = 0 from if_neg (by omega)]) ?_
          exact join_70  
  refine c_lve (lv' := [(4, .int (nI 0)), (3, .int (nI (thE g (tn v) 0))), (2, .ref (ad 20 (tn v))), (0, .ref (ad 0 0)), (1, .int (nI (tn v)))]) (rfl) ?_
  refine c_eq (g' := thS g (tn v) 0) (th_init) ?_
  exact loop_11 _ 0 (by omega) (Nat.lt_succ_self _)
