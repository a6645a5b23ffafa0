theorem tw_12 : (Jvm.Cond.initialized "Corpusline$TokenTest") ∈ TB := tb_of 12 (by decide +kernel) rfl
theorem tw_329 : (Jvm.Cond.methodLink "Corpusline$TokenTest" (25 : Nat) ({ cls := "Corpusline$TokenTest", name := "ofSames", desc := "(I)LCorpusline$TokenTest;" } : Jvm.MethodName)) ∈ TB := tb_of 329 (by decide +kernel) rfl
theorem tw_330 : (Jvm.Cond.static ({ cls := "Corpusline$TokenTest", name := "ofSames", desc := "(I)LCorpusline$TokenTest;" } : Jvm.MethodName)) ∈ TB := tb_of 330 (by decide +kernel) rfl
theorem tw_331 : (Jvm.Cond.code ({ cls := "Corpusline$TokenTest", name := "ofSames", desc := "(I)LCorpusline$TokenTest;" } : Jvm.MethodName) prog_6_method_2_code (3 : Nat) (Option.some (Jvm.ClassFile.FieldType.object "Corpusline$TokenTest"))) ∈ TB := tb_of 331 (by decide +kernel) rfl
theorem tw_332 : (Jvm.Cond.classLink "Corpusline$TokenTest" (9 : Nat) "Corpusline$TokenTest") ∈ TB := tb_of 332 (by decide +kernel) rfl
theorem tw_333 : (Jvm.Cond.instantiable "Corpusline$TokenTest" (3 : Nat)) ∈ TB := tb_of 333 (by decide +kernel) rfl
theorem tw_334 : (Jvm.Cond.methodLink "Corpusline$TokenTest" (22 : Nat) ({ cls := "Corpusline$TokenTest", name := "<init>", desc := "()V" } : Jvm.MethodName)) ∈ TB := tb_of 334 (by decide +kernel) rfl
theorem tw_335 : (Jvm.Cond.instanceMethod ({ cls := "Corpusline$TokenTest", name := "<init>", desc := "()V" } : Jvm.MethodName)) ∈ TB := tb_of 335 (by decide +kernel) rfl
theorem tw_336 : (Jvm.Cond.code ({ cls := "Corpusline$TokenTest", name := "<init>", desc := "()V" } : Jvm.MethodName) prog_6_method_1_code (1 : Nat) (Option.none : Option Jvm.ClassFile.FieldType)) ∈ TB := tb_of 336 (by decide +kernel) rfl
theorem tw_348 : (Jvm.Cond.constantLong "Corpusline$TokenTest" (23 : Nat) (-1 : Int64)) ∈ TB := tb_of 348 (by decide +kernel) rfl
theorem ok_RX4_22 : okI RX4 22 yX4_init cX4_init 1 0 := ⟨tw_334, tw_335, rfl, tw_12, tw_336, ⟨by decide, by decide, by decide +kernel⟩⟩
theorem ok_RX4_25 : okS RX4 25 yX4_ofSames cX4_ofSames 3 (Option.some (Jvm.ClassFile.FieldType.object "Corpusline$TokenTest")) 1 := ⟨tw_329, tw_330, tw_12, tw_331, ⟨by decide, by decide, by decide +kernel⟩⟩
theorem nw_RX4_9 : nwOk RX4 9 3 [.null, .int (nI 0), .int (nI 0)] 3 := ⟨_, _, tyX4, rfl, cw_3, tyX4_ok, tw_332, tw_333, tw_12, by decide +kernel⟩
/-- a new test -/
def tcl (G : eG) (a p : Nat) (P : Nat → Nat) (s lb : Nat) : cL := [(p, aJ G 6 (fun i => lN (P i))), (a, oC 3 [.ref p, .int (nI s), .int (nI lb)])]
def allP : Nat → Nat := fun i => if i < 6 then 18446744073709551615 else 0
def othP (a v : Nat) : Nat → Nat := fun i => if i = a * 2 + v / 64 then 2 ^ (v % 64) ^^^ 18446744073709551615 else allP i
def valP (a v : Nat) : Nat → Nat := fun i => if i = a * 2 + v / 64 then 2 ^ (v % 64) else if a * 2 ≤ i ∧ i < a * 2 + 2 then 0 else allP i
def botP (P Q : Nat → Nat) : Nat → Nat := fun i => if i < 6 then P i &&& Q i else 0
theorem lN_m1 : (-1 : Int64) = lN 18446744073709551615 := by decide
theorem lN_xor (a b : Nat) : lN a ^^^ lN b = lN (a ^^^ b) := by
  apply Int64.toBitVec_inj.mp
  rw [Int64.toBitVec_xor]
  show BitVec.ofNat 64 a ^^^ BitVec.ofNat 64 b = BitVec.ofNat 64 (a ^^^ b)
  apply BitVec.eq_of_toNat_eq
  rw [BitVec.toNat_xor, BitVec.toNat_ofNat, BitVec.toNat_ofNat, BitVec.toNat_ofNat, Nat.xor_mod_two_pow]
theorem updL_of {f g : Nat → Nat} {k v : Nat} (h : ∀ j, (if j = k then v else f j) = g j) : vp_updL (fun i => lN (f i)) k (lN v) = fun i => lN (g i) := by
  funext j; rw [← h j]; unfold vp_updL; split <;> rfl
theorem updI_of {f g : Nat → Nat} {k v : Nat} (h : ∀ j, (if j = k then v else f j) = g j) : upd (fun i => nI (f i)) k (nI v) = fun i => nI (g i) := by
  funext j; rw [← h j]; unfold upd; split <;> rfl
theorem lt_step {f : Nat → Nat} {k j : Nat} : (if j = k then f k else if j < k then f j else 0) = if j < k + 1 then f j else 0 := by
  by_cases c : j = k
  · rw [if_pos c, if_pos (by omega), c]
  · rw [if_neg c]
    by_cases d : j < k
    · rw [if_pos d, if_pos (by omega)]
    · rw [if_neg d, if_neg (by omega)]
theorem upL_all {k : Nat} : vp_updL (fun i => lN (if i < k then 18446744073709551615 else 0)) k (-1) = fun i => lN (if i < k + 1 then 18446744073709551615 else 0) := by
  rw [lN_m1]; exact updL_of (fun j => lt_step (f := fun _ => 18446744073709551615))
theorem upL_0 {f : Nat → Nat} : (fun _ => (0 : Int64)) = fun i => lN (if i < 0 then f i else 0) := by
  funext j; rw [if_neg (by omega)]; rfl
theorem upL_both {P Q : Nat → Nat} {k : Nat} : vp_updL (fun i => lN (if i < k then P i &&& Q i else 0)) k (lN (P k &&& Q k)) = fun i => lN (if i < k + 1 then P i &&& Q i else 0) := updL_of (fun j => lt_step (f := fun i => P i &&& Q i))
theorem upL_oth {a v : Nat} : vp_updL (fun i => lN (allP i)) (a * 2 + v / 64) (lN (1 * 2 ^ (v % 64)) ^^^ (-1)) = fun i => lN (othP a v i) := by
  rw [lN_m1, lN_xor, Nat.one_mul]; exact updL_of (fun j => rfl)
def valZ (a k : Nat) : Nat → Nat := fun i => if a * 2 ≤ i ∧ i < a * 2 + k then 0 else allP i
theorem valZ_0 (a : Nat) : (fun i => lN (allP i)) = fun i => lN (valZ a 0 i) := by
  funext j; unfold valZ; rw [if_neg (by omega)]
theorem valZ_s {a k : Nat} : vp_updL (fun i => lN (valZ a k i)) (a * 2 + k) (lN 0) = fun i => lN (valZ a (k + 1) i) := updL_of (fun j => by
  unfold valZ
  by_cases c : j = a * 2 + k
  · rw [if_pos c, if_pos (by omega)]
  · rw [if_neg c]
    by_cases d : a * 2 ≤ j ∧ j < a * 2 + k
    · rw [if_pos d, if_pos (by omega)]
    · rw [if_neg d, if_neg (by omega)])
theorem upL_val {a v : Nat} : vp_updL (fun i => lN (valZ a 2 i)) (a * 2 + v / 64) (lN (1 * 2 ^ (v % 64))) = fun i => lN (valP a v i) := by
  rw [Nat.one_mul]; exact updL_of (fun j => rfl)

set_option maxHeartbeats 4000000 in
set_option maxRecDepth 100000 in
theorem l_X4init {l : Launch} {G : eG} {h0 : hp} {a : Nat} : kL l G h0 [(a, oC 3 [.null, .int (nI 0), .int (nI 0)])] yX4_init cX4_init 1 (Option.none : Option Jvm.ClassFile.FieldType) { frames := 1, cells := 1, slots := 6, locals := 20 } [.ref a] (fun v9 L9 => v9 = none ∧ ∃ p, L9 = [(p, aJ G 6 (fun _ => 0)), (a, oC 3 [.ref p, .int (nI 0), .int (nI 0)])]) := by
  refine kL.of (by decide) (Nat.le_of_ble_eq_true rfl) ?_
  intro x C A TY CI
  replace CI := CI rfl
  show VL G x h0 [(a, oC 3 [.null, .int (nI 0), .int (nI 0)])] 0 0 0 [(0, .ref a)] []
  refine w_aload_n C d_X4_init_0 0 rfl ?_
  refine w_obj C d_X4_init_1 tw_337 tw_21 tw_22 (by decide) (by decide) ?_
  refine w_aload_n C d_X4_init_4 0 rfl ?_
  refine w_bipush C d_X4_init_5 (v := (nI 6)) rfl ?_
  refine w_newJ C d_X4_init_7 tw_78 (by decide) (Nat.le_of_ble_eq_true rfl) (Nat.le_of_ble_eq_true rfl) (fun p => ?_)
  show VL G x h0 [(p, aJ G 6 (fun _ => 0)), (a, oC 3 [.null, .int (nI 0), .int (nI 0)])] 1 6 9 [(0, .ref a)] [.ref p, .ref a]
  refine w_putF C CI 1 d_X4_init_9 pf_RX4_11 (fun q9 e9 => by cases e9; rfl) rfl rfl rfl (Nat.le_of_ble_eq_true rfl) (fs' := [.ref p, .int (nI 0), .int (nI 0)]) rfl (L' := [(p, aJ G 6 (fun _ => 0)), (a, oC 3 [.ref p, .int (nI 0), .int (nI 0)])]) rfl ?_
  refine w_aload_n C d_X4_init_12 0 rfl ?_
  refine w_iconst C d_X4_init_13 (v := (nI 0)) rfl ?_
  refine w_put C 1 d_X4_init_14 pf_RX4_15 rfl rfl rfl (Nat.le_of_ble_eq_true rfl) (fs' := [.ref p, .int (nI 0), .int (nI 0)]) rfl (L' := [(p, aJ G 6 (fun _ => 0)), (a, oC 3 [.ref p, .int (nI 0), .int (nI 0)])]) rfl ?_
  refine w_aload_n C d_X4_init_17 0 rfl ?_
  refine w_iconst C d_X4_init_18 (v := (nI 0)) rfl ?_
  refine w_put C 1 d_X4_init_19 pf_RX4_19 rfl rfl rfl (Nat.le_of_ble_eq_true rfl) (fs' := [.ref p, .int (nI 0), .int (nI 0)]) rfl (L' := [(p, aJ G 6 (fun _ => 0)), (a, oC 3 [.ref p, .int (nI 0), .int (nI 0)])]) rfl ?_
  exact w_vret C A TY d_X4_init_22 (Nat.le_of_ble_eq_true rfl) (Nat.le_of_ble_eq_true rfl) (⟨rfl, p, rfl⟩)
def dl_X4_ofSames : List (Nat × Instr × Nat) := [(0, .new 9, 3), (3, .dup, 1), (4, .invokespecial 22, 3), (7, .astore_n 1, 1), (8, .iconst 0, 1), (9, .istore_n 2, 1), (10, .iload_n 2, 1), (11, .bipush 6, 2), (13, .if_icmp .ge 18, 3), (16, .aload_n 1, 1), (17, .getfield 11, 3), (20, .iload_n 2, 1), (21, .ldc2_w 23, 3), (24, .lastore, 1), (25, .iinc 2 1, 3), (28, .goto (-18), 3), (31, .aload_n 1, 1), (32, .iload_n 0, 1), (33, .putfield 15, 3), (36, .aload_n 1, 1), (37, .areturn, 1)]
theorem dc_X4_ofSames : dnL cX4_ofSames dl_X4_ofSames = true := by decide +kernel
theorem d_X4_ofSames_0 : dn cX4_ofSames 0 (.new 9) 3 3 := dnAt dc_X4_ofSames 0 rfl rfl
theorem d_X4_ofSames_3 : dn cX4_ofSames 3 (.dup) 1 4 := dnAt dc_X4_ofSames 1 rfl rfl
theorem d_X4_ofSames_4 : dn cX4_ofSames 4 (.invokespecial 22) 3 7 := dnAt dc_X4_ofSames 2 rfl rfl
theorem d_X4_ofSames_7 : dn cX4_ofSames 7 (.astore_n 1) 1 8 := dnAt dc_X4_ofSames 3 rfl rfl
theorem d_X4_ofSames_8 : dn cX4_ofSames 8 (.iconst 0) 1 9 := dnAt dc_X4_ofSames 4 rfl rfl
theorem d_X4_ofSames_9 : dn cX4_ofSames 9 (.istore_n 2) 1 10 := dnAt dc_X4_ofSames 5 rfl rfl
theorem d_X4_ofSames_10 : dn cX4_ofSames 10 (.iload_n 2) 1 11 := dnAt dc_X4_ofSames 6 rfl rfl
theorem d_X4_ofSames_11 : dn cX4_ofSames 11 (.bipush 6) 2 13 := dnAt dc_X4_ofSames 7 rfl rfl
theorem d_X4_ofSames_13 : dn cX4_ofSames 13 (.if_icmp .ge 18) 3 16 := dnAt dc_X4_ofSames 8 rfl rfl
theorem d_X4_ofSames_16 : dn cX4_ofSames 16 (.aload_n 1) 1 17 := dnAt dc_X4_ofSames 9 rfl rfl
theorem d_X4_ofSames_17 : dn cX4_ofSames 17 (.getfield 11) 3 20 := dnAt dc_X4_ofSames 10 rfl rfl
theorem d_X4_ofSames_20 : dn cX4_ofSames 20 (.iload_n 2) 1 21 := dnAt dc_X4_ofSames 11 rfl rfl
theorem d_X4_ofSames_21 : dn cX4_ofSames 21 (.ldc2_w 23) 3 24 := dnAt dc_X4_ofSames 12 rfl rfl
theorem d_X4_ofSames_24 : dn cX4_ofSames 24 (.lastore) 1 25 := dnAt dc_X4_ofSames 13 rfl rfl
theorem d_X4_ofSames_25 : dn cX4_ofSames 25 (.iinc 2 1) 3 28 := dnAt dc_X4_ofSames 14 rfl rfl
theorem d_X4_ofSames_28 : dn cX4_ofSames 28 (.goto (-18)) 3 31 := dnAt dc_X4_ofSames 15 rfl rfl
theorem d_X4_ofSames_31 : dn cX4_ofSames 31 (.aload_n 1) 1 32 := dnAt dc_X4_ofSames 16 rfl rfl
theorem d_X4_ofSames_32 : dn cX4_ofSames 32 (.iload_n 0) 1 33 := dnAt dc_X4_ofSames 17 rfl rfl
theorem d_X4_ofSames_33 : dn cX4_ofSames 33 (.putfield 15) 3 36 := dnAt dc_X4_ofSames 18 rfl rfl
theorem d_X4_ofSames_36 : dn cX4_ofSames 36 (.aload_n 1) 1 37 := dnAt dc_X4_ofSames 19 rfl rfl
theorem d_X4_ofSames_37 : dn cX4_ofSames 37 (.areturn) 1 38 := dnAt dc_X4_ofSames 20 rfl rfl
set_option maxHeartbeats 4000000 in
set_option maxRecDepth 100000 in
theorem l_ofSames {l : Launch} {G : eG} {h0 : hp} {s : Nat} : kL l G h0 [] yX4_ofSames cX4_ofSames 3 (Option.some (Jvm.ClassFile.FieldType.object "Corpusline$TokenTest")) { frames := 2, cells := 2, slots := 9, locals := 40 } [.int (nI s)] (fun v9 L9 => ∃ a p, v9 = some (.ref a) ∧ L9 = tcl G a p allP s 0) := by
  refine kL.of (by decide) (Nat.le_of_ble_eq_true rfl) ?_
  intro x C A TY CI
  show VL G x h0 [] 0 0 0 [(0, .int (nI s))] []
  refine w_new C d_X4_ofSames_0 nw_RX4_9 (Nat.le_of_ble_eq_true rfl) (Nat.le_of_ble_eq_true rfl) (fun a => ?_)
  show VL G x h0 [(a, oC 3 [.null, .int (nI 0), .int (nI 0)])] 1 3 3 [(0, .int (nI s))] [.ref a]
  refine w_dup C d_X4_ofSames_3 rfl ?_
  refine w_callI C d_X4_ofSames_4 ok_RX4_22 (L := [(a, oC 3 [.null, .int (nI 0), .int (nI 0)])]) (M := []) rfl (fun l h9 m9 c9 => l_X4init) (rest := [.ref a]) rfl rfl (Nat.le_of_ble_eq_true rfl) ⟨⟨by decide, by decide⟩, Nat.le_of_ble_eq_true rfl, Nat.le_of_ble_eq_true rfl⟩ (fun v9 L9 e9 => ?_)
  obtain ⟨rfl, p1, rfl⟩ := e9
  show VL G x h0 [(p1, aJ G 6 (fun _ => 0)), (a, oC 3 [.ref p1, .int (nI 0), .int (nI 0)])] 2 9 7 [(0, .int (nI s))] [.ref a]
  refine w_astore_n C d_X4_ofSames_7 (lv' := [(1, .ref a), (0, .int (nI s))]) (by decide) rfl ?_
  refine w_iconst C d_X4_ofSames_8 (v := (nI 0)) rfl ?_
  refine w_istore_n C d_X4_ofSames_9 (lv' := [(2, .int (nI 0)), (1, .ref a), (0, .int (nI s))]) (by decide) rfl ?_
  have loop_10 : ∀ (fuel : Nat) (k : Nat), (k ≤ 6) → (7 - k) < fuel → VL G x h0 [(p1, aJ G 6 (fun i => lN (if i < k then 18446744073709551615 else 0))), (a, oC 3 [.ref p1, .int (nI 0), .int (nI 0)])] 2 9 10 [(2, .int (nI k)), (1, .ref a), (0, .int (nI s))] [] := by
    intro fuel
    induction fuel with
    | zero => intro k hk hf9; exact absurd hf9 (Nat.not_lt_zero _)
    | succ fuel ih_10 =>
      intro k hk hf9
      refine w_iload_n C d_X4_ofSames_10 0 rfl ?_
      refine w_bipush C d_X4_ofSames_11 (v := (nI 6)) rfl ?_
      refine wn_icmp_ge C d_X4_ofSames_13 (tgt := 31) rfl (by omega) (by omega) (fun c_13 => ?_) (fun c_13 => ?_)
      · skip
        obtain rfl : k = 6 := by omega
        refine w_aload_n C d_X4_ofSames_31 1 rfl ?_
        refine w_iload_n C d_X4_ofSames_32 2 rfl ?_
        refine w_put C 1 d_X4_ofSames_33 pf_RX4_15 rfl rfl rfl (Nat.le_of_ble_eq_true rfl) (fs' := [.ref p1, .int (nI s), .int (nI 0)]) rfl (L' := [(p1, aJ G 6 (fun i => lN (if i < 6 then 18446744073709551615 else 0))), (a, oC 3 [.ref p1, .int (nI s), .int (nI 0)])]) rfl ?_
        refine w_aload_n C d_X4_ofSames_36 1 rfl ?_
        exact w_aret C A TY d_X4_ofSames_37 (Nat.le_of_ble_eq_true rfl) (Nat.le_of_ble_eq_true rfl) (⟨a, p1, rfl, rfl⟩)
      · skip
        refine w_aload_n C d_X4_ofSames_16 1 rfl ?_
        refine w_get C 1 d_X4_ofSames_17 fd_RX4_11 rfl (v := .ref p1) rfl ?_
        refine w_iload_n C d_X4_ofSames_20 0 rfl ?_
        refine w_ldc2 C d_X4_ofSames_21 (v := (-1 : Int64)) tw_348 ?_
        refine w_last C 0 d_X4_ofSames_24 rfl (by omega) (by omega) (L' := [(p1, aJ G 6 (vp_updL (fun i => lN (if i < k then 18446744073709551615 else 0)) k ((-1 : Int64)))), (a, oC 3 [.ref p1, .int (nI 0), .int (nI 0)])]) rfl ?_
        refine wn_iinc C d_X4_ofSames_25 (lv' := [(2, .int (nI (k + 1))), (1, .ref a), (0, .int (nI s))]) 0 rfl (nI_inc _ rfl) (by decide) rfl ?_
        refine w_goto C d_X4_ofSames_28 (tgt := 10) rfl ?_
        refine w_eq (L' := [(p1, aJ G 6 (fun i => lN (if i < (k + 1) then 18446744073709551615 else 0))), (a, oC 3 [.ref p1, .int (nI 0), .int (nI 0)])]) (by rw [upL_all]) ?_
        exact ih_10 (k + 1) (by omega) (by omega)
  refine w_eq (L' := [(p1, aJ G 6 (fun i => lN (if i < 0 then 18446744073709551615 else 0))), (a, oC 3 [.ref p1, .int (nI 0), .int (nI 0)])]) (by rw [upL_0 (f := fun _ => 18446744073709551615)]) ?_
  exact loop_10 _ 0 (by omega) (Nat.lt_succ_self _)
def dl_X4_ofValue : List (Nat × Instr × Nat) := [(0, .iconst 0, 1), (1, .invokestatic 25, 3), (4, .astore_n 3, 1), (5, .iload_n 0, 1), (6, .iconst 2, 1), (7, .imul, 1), (8, .iload_n 1, 1), (9, .bipush 64, 2), (11, .idiv, 1), (12, .iadd, 1), (13, .istore 4, 2), (15, .lconst 1, 1), (16, .iload_n 1, 1), (17, .bipush 64, 2), (19, .irem, 1), (20, .lshl, 1), (21, .lstore 5, 2), (23, .iload_n 2, 1), (24, .ifCond .eq 18, 3), (27, .aload_n 3, 1), (28, .getfield 11, 3), (31, .iload 4, 2), (33, .lload 5, 2), (35, .ldc2_w 23, 3), (38, .lxor, 1), (39, .lastore, 1), (40, .aload_n 3, 1), (41, .areturn, 1), (42, .iconst 0, 1), (43, .istore 7, 2), (45, .iload 7, 2), (47, .iconst 2, 1), (48, .if_icmp .ge 21, 3), (51, .aload_n 3, 1), (52, .getfield 11, 3), (55, .iload_n 0, 1), (56, .iconst 2, 1), (57, .imul, 1), (58, .iload 7, 2), (60, .iadd, 1), (61, .lconst 0, 1), (62, .lastore, 1), (63, .iinc 7 1, 3), (66, .goto (-21), 3), (69, .aload_n 3, 1), (70, .getfield 11, 3), (73, .iload 4, 2), (75, .lload 5, 2), (77, .lastore, 1), (78, .aload_n 3, 1), (79, .areturn, 1)]
theorem dc_X4_ofValue : dnL cX4_ofValue dl_X4_ofValue = true := by decide +kernel
theorem d_X4_ofValue_0 : dn cX4_ofValue 0 (.iconst 0) 1 1 := dnAt dc_X4_ofValue 0 rfl rfl
theorem d_X4_ofValue_1 : dn cX4_ofValue 1 (.invokestatic 25) 3 4 := dnAt dc_X4_ofValue 1 rfl rfl
theorem d_X4_ofValue_4 : dn cX4_ofValue 4 (.astore_n 3) 1 5 := dnAt dc_X4_ofValue 2 rfl rfl
theorem d_X4_ofValue_5 : dn cX4_ofValue 5 (.iload_n 0) 1 6 := dnAt dc_X4_ofValue 3 rfl rfl
theorem d_X4_ofValue_6 : dn cX4_ofValue 6 (.iconst 2) 1 7 := dnAt dc_X4_ofValue 4 rfl rfl
theorem d_X4_ofValue_7 : dn cX4_ofValue 7 (.imul) 1 8 := dnAt dc_X4_ofValue 5 rfl rfl
theorem d_X4_ofValue_8 : dn cX4_ofValue 8 (.iload_n 1) 1 9 := dnAt dc_X4_ofValue 6 rfl rfl
theorem d_X4_ofValue_9 : dn cX4_ofValue 9 (.bipush 64) 2 11 := dnAt dc_X4_ofValue 7 rfl rfl
theorem d_X4_ofValue_11 : dn cX4_ofValue 11 (.idiv) 1 12 := dnAt dc_X4_ofValue 8 rfl rfl
theorem d_X4_ofValue_12 : dn cX4_ofValue 12 (.iadd) 1 13 := dnAt dc_X4_ofValue 9 rfl rfl
theorem d_X4_ofValue_13 : dn cX4_ofValue 13 (.istore 4) 2 15 := dnAt dc_X4_ofValue 10 rfl rfl
theorem d_X4_ofValue_15 : dn cX4_ofValue 15 (.lconst 1) 1 16 := dnAt dc_X4_ofValue 11 rfl rfl
theorem d_X4_ofValue_16 : dn cX4_ofValue 16 (.iload_n 1) 1 17 := dnAt dc_X4_ofValue 12 rfl rfl
theorem d_X4_ofValue_17 : dn cX4_ofValue 17 (.bipush 64) 2 19 := dnAt dc_X4_ofValue 13 rfl rfl
theorem d_X4_ofValue_19 : dn cX4_ofValue 19 (.irem) 1 20 := dnAt dc_X4_ofValue 14 rfl rfl
theorem d_X4_ofValue_20 : dn cX4_ofValue 20 (.lshl) 1 21 := dnAt dc_X4_ofValue 15 rfl rfl
theorem d_X4_ofValue_21 : dn cX4_ofValue 21 (.lstore 5) 2 23 := dnAt dc_X4_ofValue 16 rfl rfl
theorem d_X4_ofValue_23 : dn cX4_ofValue 23 (.iload_n 2) 1 24 := dnAt dc_X4_ofValue 17 rfl rfl
theorem d_X4_ofValue_24 : dn cX4_ofValue 24 (.ifCond .eq 18) 3 27 := dnAt dc_X4_ofValue 18 rfl rfl
theorem d_X4_ofValue_27 : dn cX4_ofValue 27 (.aload_n 3) 1 28 := dnAt dc_X4_ofValue 19 rfl rfl
theorem d_X4_ofValue_28 : dn cX4_ofValue 28 (.getfield 11) 3 31 := dnAt dc_X4_ofValue 20 rfl rfl
theorem d_X4_ofValue_31 : dn cX4_ofValue 31 (.iload 4) 2 33 := dnAt dc_X4_ofValue 21 rfl rfl
theorem d_X4_ofValue_33 : dn cX4_ofValue 33 (.lload 5) 2 35 := dnAt dc_X4_ofValue 22 rfl rfl
theorem d_X4_ofValue_35 : dn cX4_ofValue 35 (.ldc2_w 23) 3 38 := dnAt dc_X4_ofValue 23 rfl rfl
theorem d_X4_ofValue_38 : dn cX4_ofValue 38 (.lxor) 1 39 := dnAt dc_X4_ofValue 24 rfl rfl
theorem d_X4_ofValue_39 : dn cX4_ofValue 39 (.lastore) 1 40 := dnAt dc_X4_ofValue 25 rfl rfl
theorem d_X4_ofValue_40 : dn cX4_ofValue 40 (.aload_n 3) 1 41 := dnAt dc_X4_ofValue 26 rfl rfl
theorem d_X4_ofValue_41 : dn cX4_ofValue 41 (.areturn) 1 42 := dnAt dc_X4_ofValue 27 rfl rfl
theorem d_X4_ofValue_42 : dn cX4_ofValue 42 (.iconst 0) 1 43 := dnAt dc_X4_ofValue 28 rfl rfl
theorem d_X4_ofValue_43 : dn cX4_ofValue 43 (.istore 7) 2 45 := dnAt dc_X4_ofValue 29 rfl rfl
theorem d_X4_ofValue_45 : dn cX4_ofValue 45 (.iload 7) 2 47 := dnAt dc_X4_ofValue 30 rfl rfl
theorem d_X4_ofValue_47 : dn cX4_ofValue 47 (.iconst 2) 1 48 := dnAt dc_X4_ofValue 31 rfl rfl
theorem d_X4_ofValue_48 : dn cX4_ofValue 48 (.if_icmp .ge 21) 3 51 := dnAt dc_X4_ofValue 32 rfl rfl
theorem d_X4_ofValue_51 : dn cX4_ofValue 51 (.aload_n 3) 1 52 := dnAt dc_X4_ofValue 33 rfl rfl
theorem d_X4_ofValue_52 : dn cX4_ofValue 52 (.getfield 11) 3 55 := dnAt dc_X4_ofValue 34 rfl rfl
theorem d_X4_ofValue_55 : dn cX4_ofValue 55 (.iload_n 0) 1 56 := dnAt dc_X4_ofValue 35 rfl rfl
theorem d_X4_ofValue_56 : dn cX4_ofValue 56 (.iconst 2) 1 57 := dnAt dc_X4_ofValue 36 rfl rfl
theorem d_X4_ofValue_57 : dn cX4_ofValue 57 (.imul) 1 58 := dnAt dc_X4_ofValue 37 rfl rfl
theorem d_X4_ofValue_58 : dn cX4_ofValue 58 (.iload 7) 2 60 := dnAt dc_X4_ofValue 38 rfl rfl
theorem d_X4_ofValue_60 : dn cX4_ofValue 60 (.iadd) 1 61 := dnAt dc_X4_ofValue 39 rfl rfl
theorem d_X4_ofValue_61 : dn cX4_ofValue 61 (.lconst 0) 1 62 := dnAt dc_X4_ofValue 40 rfl rfl
theorem d_X4_ofValue_62 : dn cX4_ofValue 62 (.lastore) 1 63 := dnAt dc_X4_ofValue 41 rfl rfl
theorem d_X4_ofValue_63 : dn cX4_ofValue 63 (.iinc 7 1) 3 66 := dnAt dc_X4_ofValue 42 rfl rfl
theorem d_X4_ofValue_66 : dn cX4_ofValue 66 (.goto (-21)) 3 69 := dnAt dc_X4_ofValue 43 rfl rfl
theorem d_X4_ofValue_69 : dn cX4_ofValue 69 (.aload_n 3) 1 70 := dnAt dc_X4_ofValue 44 rfl rfl
theorem d_X4_ofValue_70 : dn cX4_ofValue 70 (.getfield 11) 3 73 := dnAt dc_X4_ofValue 45 rfl rfl
theorem d_X4_ofValue_73 : dn cX4_ofValue 73 (.iload 4) 2 75 := dnAt dc_X4_ofValue 46 rfl rfl
theorem d_X4_ofValue_75 : dn cX4_ofValue 75 (.lload 5) 2 77 := dnAt dc_X4_ofValue 47 rfl rfl
theorem d_X4_ofValue_77 : dn cX4_ofValue 77 (.lastore) 1 78 := dnAt dc_X4_ofValue 48 rfl rfl
theorem d_X4_ofValue_78 : dn cX4_ofValue 78 (.aload_n 3) 1 79 := dnAt dc_X4_ofValue 49 rfl rfl
theorem d_X4_ofValue_79 : dn cX4_ofValue 79 (.areturn) 1 80 := dnAt dc_X4_ofValue 50 rfl rfl
set_option maxHeartbeats 4000000 in
set_option maxRecDepth 100000 in
theorem l_ofValue {l : Launch} {G : eG} {h0 : hp} {a v : Nat} {o : Bool} (ha : a < 3) (hv : v < 100) : kL l G h0 [] yX4_ofValue cX4_ofValue 8 (Option.some (Jvm.ClassFile.FieldType.object "Corpusline$TokenTest")) { frames := 3, cells := 2, slots := 9, locals := 62 } [.int (nI a), .int (nI v), .int (bI o)] (fun v9 L9 => ∃ t p, v9 = some (.ref t) ∧ L9 = tcl G t p (if o = true then othP a v else valP a v) 0 0) := by
  refine kL.of (by decide) (Nat.le_of_ble_eq_true rfl) ?_
  intro x C A TY CI
  show VL G x h0 [] 0 0 0 [(0, .int (nI a)), (1, .int (nI v)), (2, .int (bI o))] []
  refine w_iconst C d_X4_ofValue_0 (v := (nI 0)) rfl ?_
  refine w_callS C d_X4_ofValue_1 ok_RX4_25 (L := []) (M := []) rfl (fun l h9 m9 c9 => l_ofSames) (rest := []) rfl rfl (Nat.le_of_ble_eq_true rfl) ⟨⟨by decide, by decide⟩, Nat.le_of_ble_eq_true rfl, Nat.le_of_ble_eq_true rfl⟩ (fun v9 L9 e9 => ?_)
  obtain ⟨t1, p1, rfl, rfl⟩ := e9
  show VL G x h0 [(p1, aJ G 6 (fun i => lN ((allP) i))), (t1, oC 3 [.ref p1, .int (nI 0), .int (nI 0)])] 2 9 4 [(0, .int (nI a)), (1, .int (nI v)), (2, .int (bI o))] [.ref t1]
  refine w_astore_n C d_X4_ofValue_4 (lv' := [(3, .ref t1), (0, .int (nI a)), (1, .int (nI v)), (2, .int (bI o))]) (by decide) rfl ?_
  refine w_iload_n C d_X4_ofValue_5 1 rfl ?_
  refine w_iconst C d_X4_ofValue_6 (v := (nI 2)) rfl ?_
  refine wn_imul C d_X4_ofValue_7 ?_
  refine w_iload_n C d_X4_ofValue_8 2 rfl ?_
  refine w_bipush C d_X4_ofValue_9 (v := (nI 64)) rfl ?_
  refine wn_idiv C d_X4_ofValue_11 (by omega) (by decide) (by decide) ?_
  refine wn_iadd C d_X4_ofValue_12 ?_
  refine w_istore C d_X4_ofValue_13 (lv' := [(4, .int (nI ((a * 2) + (v / 64)))), (3, .ref t1), (0, .int (nI a)), (1, .int (nI v)), (2, .int (bI o))]) (by decide) rfl ?_
  refine w_lconst C d_X4_ofValue_15 (v := (lN 1)) rfl ?_
  refine w_iload_n C d_X4_ofValue_16 3 rfl ?_
  refine w_bipush C d_X4_ofValue_17 (v := (nI 64)) rfl ?_
  refine wn_irem C d_X4_ofValue_19 (by omega) (by decide) (by decide) ?_
  refine wn_lshl C d_X4_ofValue_20 (by omega) ?_
  refine w_lstore C d_X4_ofValue_21 (lv' := [(5, .long (lN (1 * 2 ^ (v % 64)))), (4, .int (nI ((a * 2) + (v / 64)))), (3, .ref t1), (0, .int (nI a)), (1, .int (nI v)), (2, .int (bI o))]) (by decide) rfl ?_
  refine w_iload_n C d_X4_ofValue_23 5 rfl ?_
  refine wb_if_eq C d_X4_ofValue_24 (tgt := 42) rfl (fun c_24 => ?_) (fun c_24 => ?_)
  · skip
    refine w_iconst C d_X4_ofValue_42 (v := (nI 0)) rfl ?_
    refine w_istore C d_X4_ofValue_43 (lv' := [(7, .int (nI 0)), (5, .long (lN (1 * 2 ^ (v % 64)))), (4, .int (nI ((a * 2) + (v / 64)))), (3, .ref t1), (0, .int (nI a)), (1, .int (nI v)), (2, .int (bI o))]) (by decide) rfl ?_
    have loop_45 : ∀ (fuel : Nat) (k : Nat), (k ≤ 2) → (3 - k) < fuel → VL G x h0 [(p1, aJ G 6 (fun i => lN (valZ a k i))), (t1, oC 3 [.ref p1, .int (nI 0), .int (nI 0)])] 2 9 45 [(7, .int (nI k)), (5, .long (lN (1 * 2 ^ (v % 64)))), (4, .int (nI (a * 2 + v / 64))), (3, .ref t1), (0, .int (nI a)), (1, .int (nI v)), (2, .int (bI o))] [] := by
      intro fuel
      induction fuel with
      | zero => intro k hk hf9; exact absurd hf9 (Nat.not_lt_zero _)
      | succ fuel ih_45 =>
        intro k hk hf9
        refine w_iload C d_X4_ofValue_45 0 rfl ?_
        refine w_iconst C d_X4_ofValue_47 (v := (nI 2)) rfl ?_
        refine wn_icmp_ge C d_X4_ofValue_48 (tgt := 69) rfl (by omega) (by omega) (fun c_48 => ?_) (fun c_48 => ?_)
        · skip
          obtain rfl : k = 2 := by omega
          refine w_aload_n C d_X4_ofValue_69 3 rfl ?_
          refine w_get C 1 d_X4_ofValue_70 fd_RX4_11 rfl (v := .ref p1) rfl ?_
          refine w_iload C d_X4_ofValue_73 2 rfl ?_
          refine w_lload C d_X4_ofValue_75 1 rfl ?_
          refine w_last C 0 d_X4_ofValue_77 rfl (by omega) (by omega) (L' := [(p1, aJ G 6 (vp_updL (fun i => lN (valZ a 2 i)) (a * 2 + v / 64) (lN (1 * 2 ^ (v % 64))))), (t1, oC 3 [.ref p1, .int (nI 0), .int (nI 0)])]) rfl ?_
          refine w_aload_n C d_X4_ofValue_78 3 rfl ?_
          exact w_aret C A TY d_X4_ofValue_79 (Nat.le_of_ble_eq_true rfl) (Nat.le_of_ble_eq_true rfl) (⟨t1, p1, rfl, by unfold tcl; rw [upL_val, c_24]; rfl⟩)
        · skip
          refine w_aload_n C d_X4_ofValue_51 3 rfl ?_
          refine w_get C 1 d_X4_ofValue_52 fd_RX4_11 rfl (v := .ref p1) rfl ?_
          refine w_iload_n C d_X4_ofValue_55 4 rfl ?_
          refine w_iconst C d_X4_ofValue_56 (v := (nI 2)) rfl ?_
          refine wn_imul C d_X4_ofValue_57 ?_
          refine w_iload C d_X4_ofValue_58 0 rfl ?_
          refine wn_iadd C d_X4_ofValue_60 ?_
          refine w_lconst C d_X4_ofValue_61 (v := (lN 0)) rfl ?_
          refine w_last C 0 d_X4_ofValue_62 rfl (by omega) (by omega) (L' := [(p1, aJ G 6 (vp_updL (fun i => lN (valZ a k i)) ((a * 2) + k) (lN 0))), (t1, oC 3 [.ref p1, .int (nI 0), .int (nI 0)])]) rfl ?_
          refine wn_iinc C d_X4_ofValue_63 (lv' := [(7, .int (nI (k + 1))), (5, .long (lN (1 * 2 ^ (v % 64)))), (4, .int (nI (a * 2 + v / 64))), (3, .ref t1), (0, .int (nI a)), (1, .int (nI v)), (2, .int (bI o))]) 0 rfl (nI_inc _ rfl) (by decide) rfl ?_
          refine w_goto C d_X4_ofValue_66 (tgt := 45) rfl ?_
          refine w_eq (L' := [(p1, aJ G 6 (fun i => lN (valZ a (k + 1) i))), (t1, oC 3 [.ref p1, .int (nI 0), .int (nI 0)])]) (by rw [valZ_s]) ?_
          exact ih_45 (k + 1) (by omega) (by omega)
    refine w_lve (lv' := [(7, .int (nI 0)), (5, .long (lN (1 * 2 ^ (v % 64)))), (4, .int (nI (a * 2 + v / 64))), (3, .ref t1), (0, .int (nI a)), (1, .int (nI v)), (2, .int (bI o))]) (rfl) ?_
    refine w_eq (L' := [(p1, aJ G 6 (fun i => lN (valZ a 0 i))), (t1, oC 3 [.ref p1, .int (nI 0), .int (nI 0)])]) (by rw [show (fun i => lN ((allP) i)) = fun i => lN (valZ a 0 i) from valZ_0 a]) ?_
    exact loop_45 _ 0 (by omega) (Nat.lt_succ_self _)
  · skip
    refine w_aload_n C d_X4_ofValue_27 2 rfl ?_
    refine w_get C 1 d_X4_ofValue_28 fd_RX4_11 rfl (v := .ref p1) rfl ?_
    refine w_iload C d_X4_ofValue_31 1 rfl ?_
    refine w_lload C d_X4_ofValue_33 0 rfl ?_
    refine w_ldc2 C d_X4_ofValue_35 (v := (-1 : Int64)) tw_348 ?_
    refine w_lxor C d_X4_ofValue_38 ?_
    refine w_last C 0 d_X4_ofValue_39 rfl (by omega) (by omega) (L' := [(p1, aJ G 6 (vp_updL (fun i => lN ((allP) i)) ((a * 2) + (v / 64)) ((lN (1 * 2 ^ (v % 64))) ^^^ ((-1 : Int64))))), (t1, oC 3 [.ref p1, .int (nI 0), .int (nI 0)])]) rfl ?_
    refine w_aload_n C d_X4_ofValue_40 2 rfl ?_
    exact w_aret C A TY d_X4_ofValue_41 (Nat.le_of_ble_eq_true rfl) (Nat.le_of_ble_eq_true rfl) (⟨t1, p1, rfl, by unfold tcl; rw [upL_oth, c_24]; rfl⟩)
def dl_X4_ofBoth : List (Nat × Instr × Nat) := [(0, .new 9, 3), (3, .dup, 1), (4, .invokespecial 22, 3), (7, .astore_n 2, 1), (8, .iconst 0, 1), (9, .istore_n 3, 1), (10, .iload_n 3, 1), (11, .bipush 6, 2), (13, .if_icmp .ge 28, 3), (16, .aload_n 2, 1), (17, .getfield 11, 3), (20, .iload_n 3, 1), (21, .aload_n 0, 1), (22, .getfield 11, 3), (25, .iload_n 3, 1), (26, .laload, 1), (27, .aload_n 1, 1), (28, .getfield 11, 3), (31, .iload_n 3, 1), (32, .laload, 1), (33, .land, 1), (34, .lastore, 1), (35, .iinc 3 1, 3), (38, .goto (-28), 3), (41, .aload_n 2, 1), (42, .aload_n 0, 1), (43, .getfield 15, 3), (46, .aload_n 1, 1), (47, .getfield 15, 3), (50, .ior, 1), (51, .putfield 15, 3), (54, .aload_n 2, 1), (55, .aload_n 0, 1), (56, .getfield 19, 3), (59, .aload_n 1, 1), (60, .getfield 19, 3), (63, .ior, 1), (64, .putfield 19, 3), (67, .aload_n 2, 1), (68, .areturn, 1)]
theorem dc_X4_ofBoth : dnL cX4_ofBoth dl_X4_ofBoth = true := by decide +kernel
theorem d_X4_ofBoth_0 : dn cX4_ofBoth 0 (.new 9) 3 3 := dnAt dc_X4_ofBoth 0 rfl rfl
theorem d_X4_ofBoth_3 : dn cX4_ofBoth 3 (.dup) 1 4 := dnAt dc_X4_ofBoth 1 rfl rfl
theorem d_X4_ofBoth_4 : dn cX4_ofBoth 4 (.invokespecial 22) 3 7 := dnAt dc_X4_ofBoth 2 rfl rfl
theorem d_X4_ofBoth_7 : dn cX4_ofBoth 7 (.astore_n 2) 1 8 := dnAt dc_X4_ofBoth 3 rfl rfl
theorem d_X4_ofBoth_8 : dn cX4_ofBoth 8 (.iconst 0) 1 9 := dnAt dc_X4_ofBoth 4 rfl rfl
theorem d_X4_ofBoth_9 : dn cX4_ofBoth 9 (.istore_n 3) 1 10 := dnAt dc_X4_ofBoth 5 rfl rfl
theorem d_X4_ofBoth_10 : dn cX4_ofBoth 10 (.iload_n 3) 1 11 := dnAt dc_X4_ofBoth 6 rfl rfl
theorem d_X4_ofBoth_11 : dn cX4_ofBoth 11 (.bipush 6) 2 13 := dnAt dc_X4_ofBoth 7 rfl rfl
theorem d_X4_ofBoth_13 : dn cX4_ofBoth 13 (.if_icmp .ge 28) 3 16 := dnAt dc_X4_ofBoth 8 rfl rfl
theorem d_X4_ofBoth_16 : dn cX4_ofBoth 16 (.aload_n 2) 1 17 := dnAt dc_X4_ofBoth 9 rfl rfl
theorem d_X4_ofBoth_17 : dn cX4_ofBoth 17 (.getfield 11) 3 20 := dnAt dc_X4_ofBoth 10 rfl rfl
theorem d_X4_ofBoth_20 : dn cX4_ofBoth 20 (.iload_n 3) 1 21 := dnAt dc_X4_ofBoth 11 rfl rfl
theorem d_X4_ofBoth_21 : dn cX4_ofBoth 21 (.aload_n 0) 1 22 := dnAt dc_X4_ofBoth 12 rfl rfl
theorem d_X4_ofBoth_22 : dn cX4_ofBoth 22 (.getfield 11) 3 25 := dnAt dc_X4_ofBoth 13 rfl rfl
theorem d_X4_ofBoth_25 : dn cX4_ofBoth 25 (.iload_n 3) 1 26 := dnAt dc_X4_ofBoth 14 rfl rfl
theorem d_X4_ofBoth_26 : dn cX4_ofBoth 26 (.laload) 1 27 := dnAt dc_X4_ofBoth 15 rfl rfl
theorem d_X4_ofBoth_27 : dn cX4_ofBoth 27 (.aload_n 1) 1 28 := dnAt dc_X4_ofBoth 16 rfl rfl
theorem d_X4_ofBoth_28 : dn cX4_ofBoth 28 (.getfield 11) 3 31 := dnAt dc_X4_ofBoth 17 rfl rfl
theorem d_X4_ofBoth_31 : dn cX4_ofBoth 31 (.iload_n 3) 1 32 := dnAt dc_X4_ofBoth 18 rfl rfl
theorem d_X4_ofBoth_32 : dn cX4_ofBoth 32 (.laload) 1 33 := dnAt dc_X4_ofBoth 19 rfl rfl
theorem d_X4_ofBoth_33 : dn cX4_ofBoth 33 (.land) 1 34 := dnAt dc_X4_ofBoth 20 rfl rfl
theorem d_X4_ofBoth_34 : dn cX4_ofBoth 34 (.lastore) 1 35 := dnAt dc_X4_ofBoth 21 rfl rfl
theorem d_X4_ofBoth_35 : dn cX4_ofBoth 35 (.iinc 3 1) 3 38 := dnAt dc_X4_ofBoth 22 rfl rfl
theorem d_X4_ofBoth_38 : dn cX4_ofBoth 38 (.goto (-28)) 3 41 := dnAt dc_X4_ofBoth 23 rfl rfl
theorem d_X4_ofBoth_41 : dn cX4_ofBoth 41 (.aload_n 2) 1 42 := dnAt dc_X4_ofBoth 24 rfl rfl
theorem d_X4_ofBoth_42 : dn cX4_ofBoth 42 (.aload_n 0) 1 43 := dnAt dc_X4_ofBoth 25 rfl rfl
theorem d_X4_ofBoth_43 : dn cX4_ofBoth 43 (.getfield 15) 3 46 := dnAt dc_X4_ofBoth 26 rfl rfl
theorem d_X4_ofBoth_46 : dn cX4_ofBoth 46 (.aload_n 1) 1 47 := dnAt dc_X4_ofBoth 27 rfl rfl
theorem d_X4_ofBoth_47 : dn cX4_ofBoth 47 (.getfield 15) 3 50 := dnAt dc_X4_ofBoth 28 rfl rfl
theorem d_X4_ofBoth_50 : dn cX4_ofBoth 50 (.ior) 1 51 := dnAt dc_X4_ofBoth 29 rfl rfl
theorem d_X4_ofBoth_51 : dn cX4_ofBoth 51 (.putfield 15) 3 54 := dnAt dc_X4_ofBoth 30 rfl rfl
theorem d_X4_ofBoth_54 : dn cX4_ofBoth 54 (.aload_n 2) 1 55 := dnAt dc_X4_ofBoth 31 rfl rfl
theorem d_X4_ofBoth_55 : dn cX4_ofBoth 55 (.aload_n 0) 1 56 := dnAt dc_X4_ofBoth 32 rfl rfl
theorem d_X4_ofBoth_56 : dn cX4_ofBoth 56 (.getfield 19) 3 59 := dnAt dc_X4_ofBoth 33 rfl rfl
theorem d_X4_ofBoth_59 : dn cX4_ofBoth 59 (.aload_n 1) 1 60 := dnAt dc_X4_ofBoth 34 rfl rfl
theorem d_X4_ofBoth_60 : dn cX4_ofBoth 60 (.getfield 19) 3 63 := dnAt dc_X4_ofBoth 35 rfl rfl
theorem d_X4_ofBoth_63 : dn cX4_ofBoth 63 (.ior) 1 64 := dnAt dc_X4_ofBoth 36 rfl rfl
theorem d_X4_ofBoth_64 : dn cX4_ofBoth 64 (.putfield 19) 3 67 := dnAt dc_X4_ofBoth 37 rfl rfl
theorem d_X4_ofBoth_67 : dn cX4_ofBoth 67 (.aload_n 2) 1 68 := dnAt dc_X4_ofBoth 38 rfl rfl
theorem d_X4_ofBoth_68 : dn cX4_ofBoth 68 (.areturn) 1 69 := dnAt dc_X4_ofBoth 39 rfl rfl
set_option maxHeartbeats 4000000 in
set_option maxRecDepth 100000 in
theorem l_ofBoth {l : Launch} {G : eG} {h0 : hp} {a1 p1 s1 b1 a2 p2 s2 b2 : Nat} {P1 P2 : Nat → Nat} (h1 : h0 a1 = some (oC 3 [.ref p1, .int (nI s1), .int (nI b1)])) (q1 : h0 p1 = some (aJ G 6 (fun i => lN (P1 i)))) (h2 : h0 a2 = some (oC 3 [.ref p2, .int (nI s2), .int (nI b2)])) (q2 : h0 p2 = some (aJ G 6 (fun i => lN (P2 i)))) : kL l G h0 [] yX4_ofBoth cX4_ofBoth 4 (Option.some (Jvm.ClassFile.FieldType.object "Corpusline$TokenTest")) { frames := 2, cells := 2, slots := 9, locals := 40 } [.ref a1, .ref a2] (fun v9 L9 => ∃ a p, v9 = some (.ref a) ∧ L9 = tcl G a p (botP P1 P2) (s1 ||| s2) (b1 ||| b2)) := by
  refine kL.of (by decide) (Nat.le_of_ble_eq_true rfl) ?_
  intro x C A TY CI
  show VL G x h0 [] 0 0 0 [(0, .ref a1), (1, .ref a2)] []
  refine w_new C d_X4_ofBoth_0 nw_RX4_9 (Nat.le_of_ble_eq_true rfl) (Nat.le_of_ble_eq_true rfl) (fun a => ?_)
  show VL G x h0 [(a, oC 3 [.null, .int (nI 0), .int (nI 0)])] 1 3 3 [(0, .ref a1), (1, .ref a2)] [.ref a]
  refine w_dup C d_X4_ofBoth_3 rfl ?_
  refine w_callI C d_X4_ofBoth_4 ok_RX4_22 (L := [(a, oC 3 [.null, .int (nI 0), .int (nI 0)])]) (M := []) rfl (fun l h9 m9 c9 => l_X4init) (rest := [.ref a]) rfl rfl (Nat.le_of_ble_eq_true rfl) ⟨⟨by decide, by decide⟩, Nat.le_of_ble_eq_true rfl, Nat.le_of_ble_eq_true rfl⟩ (fun v9 L9 e9 => ?_)
  obtain ⟨rfl, p3, rfl⟩ := e9
  show VL G x h0 [(p3, aJ G 6 (fun _ => 0)), (a, oC 3 [.ref p3, .int (nI 0), .int (nI 0)])] 2 9 7 [(0, .ref a1), (1, .ref a2)] [.ref a]
  refine w_astore_n C d_X4_ofBoth_7 (lv' := [(2, .ref a), (0, .ref a1), (1, .ref a2)]) (by decide) rfl ?_
  refine w_iconst C d_X4_ofBoth_8 (v := (nI 0)) rfl ?_
  refine w_istore_n C d_X4_ofBoth_9 (lv' := [(3, .int (nI 0)), (2, .ref a), (0, .ref a1), (1, .ref a2)]) (by decide) rfl ?_
  have loop_10 : ∀ (fuel : Nat) (k : Nat), (k ≤ 6) → (7 - k) < fuel → VL G x h0 [(p3, aJ G 6 (fun i => lN (if i < k then P1 i &&& P2 i else 0))), (a, oC 3 [.ref p3, .int (nI 0), .int (nI 0)])] 2 9 10 [(3, .int (nI k)), (2, .ref a), (0, .ref a1), (1, .ref a2)] [] := by
    intro fuel
    induction fuel with
    | zero => intro k hk hf9; exact absurd hf9 (Nat.not_lt_zero _)
    | succ fuel ih_10 =>
      intro k hk hf9
      refine w_iload_n C d_X4_ofBoth_10 0 rfl ?_
      refine w_bipush C d_X4_ofBoth_11 (v := (nI 6)) rfl ?_
      refine wn_icmp_ge C d_X4_ofBoth_13 (tgt := 41) rfl (by omega) (by omega) (fun c_13 => ?_) (fun c_13 => ?_)
      · skip
        obtain rfl : k = 6 := by omega
        refine w_aload_n C d_X4_ofBoth_41 1 rfl ?_
        refine w_aload_n C d_X4_ofBoth_42 2 rfl ?_
        refine w_getN C d_X4_ofBoth_43 fd_RX4_15 (h1) (v := .int (nI s1)) rfl ?_
        refine w_aload_n C d_X4_ofBoth_46 3 rfl ?_
        refine w_getN C d_X4_ofBoth_47 fd_RX4_15 (h2) (v := .int (nI s2)) rfl ?_
        refine wn_ior C d_X4_ofBoth_50 ?_
        refine w_put C 1 d_X4_ofBoth_51 pf_RX4_15 rfl rfl rfl (Nat.le_of_ble_eq_true rfl) (fs' := [.ref p3, .int (nI (s1 ||| s2)), .int (nI 0)]) rfl (L' := [(p3, aJ G 6 (fun i => lN (if i < 6 then P1 i &&& P2 i else 0))), (a, oC 3 [.ref p3, .int (nI (s1 ||| s2)), .int (nI 0)])]) rfl ?_
        refine w_aload_n C d_X4_ofBoth_54 1 rfl ?_
        refine w_aload_n C d_X4_ofBoth_55 2 rfl ?_
        refine w_getN C d_X4_ofBoth_56 fd_RX4_19 (h1) (v := .int (nI b1)) rfl ?_
        refine w_aload_n C d_X4_ofBoth_59 3 rfl ?_
        refine w_getN C d_X4_ofBoth_60 fd_RX4_19 (h2) (v := .int (nI b2)) rfl ?_
        refine wn_ior C d_X4_ofBoth_63 ?_
        refine w_put C 1 d_X4_ofBoth_64 pf_RX4_19 rfl rfl rfl (Nat.le_of_ble_eq_true rfl) (fs' := [.ref p3, .int (nI (s1 ||| s2)), .int (nI (b1 ||| b2))]) rfl (L' := [(p3, aJ G 6 (fun i => lN (if i < 6 then P1 i &&& P2 i else 0))), (a, oC 3 [.ref p3, .int (nI (s1 ||| s2)), .int (nI (b1 ||| b2))])]) rfl ?_
        refine w_aload_n C d_X4_ofBoth_67 1 rfl ?_
        exact w_aret C A TY d_X4_ofBoth_68 (Nat.le_of_ble_eq_true rfl) (Nat.le_of_ble_eq_true rfl) (⟨a, p3, rfl, rfl⟩)
      · skip
        refine w_aload_n C d_X4_ofBoth_16 1 rfl ?_
        refine w_get C 1 d_X4_ofBoth_17 fd_RX4_11 rfl (v := .ref p3) rfl ?_
        refine w_iload_n C d_X4_ofBoth_20 0 rfl ?_
        refine w_aload_n C d_X4_ofBoth_21 2 rfl ?_
        refine w_getN C d_X4_ofBoth_22 fd_RX4_11 (h1) (v := .ref p1) rfl ?_
        refine w_iload_n C d_X4_ofBoth_25 0 rfl ?_
        refine w_laldN C d_X4_ofBoth_26 (q1) (by omega) (by decide) ?_
        show VL G x h0 [(p3, aJ G 6 (fun i => lN (if i < k then P1 i &&& P2 i else 0))), (a, oC 3 [.ref p3, .int (nI 0), .int (nI 0)])] 2 9 27 [(3, .int (nI k)), (2, .ref a), (0, .ref a1), (1, .ref a2)] [.long (lN (P1 k)), .int (nI k), .ref p3]
        refine w_aload_n C d_X4_ofBoth_27 3 rfl ?_
        refine w_getN C d_X4_ofBoth_28 fd_RX4_11 (h2) (v := .ref p2) rfl ?_
        refine w_iload_n C d_X4_ofBoth_31 0 rfl ?_
        refine w_laldN C d_X4_ofBoth_32 (q2) (by omega) (by decide) ?_
        show VL G x h0 [(p3, aJ G 6 (fun i => lN (if i < k then P1 i &&& P2 i else 0))), (a, oC 3 [.ref p3, .int (nI 0), .int (nI 0)])] 2 9 33 [(3, .int (nI k)), (2, .ref a), (0, .ref a1), (1, .ref a2)] [.long (lN (P2 k)), .long (lN (P1 k)), .int (nI k), .ref p3]
        refine wn_land C d_X4_ofBoth_33 ?_
        refine w_last C 0 d_X4_ofBoth_34 rfl (by omega) (by omega) (L' := [(p3, aJ G 6 (vp_updL (fun i => lN (if i < k then P1 i &&& P2 i else 0)) k (lN ((P1 k) &&& (P2 k))))), (a, oC 3 [.ref p3, .int (nI 0), .int (nI 0)])]) rfl ?_
        refine wn_iinc C d_X4_ofBoth_35 (lv' := [(3, .int (nI (k + 1))), (2, .ref a), (0, .ref a1), (1, .ref a2)]) 0 rfl (nI_inc _ rfl) (by decide) rfl ?_
        refine w_goto C d_X4_ofBoth_38 (tgt := 10) rfl ?_
        refine w_eq (L' := [(p3, aJ G 6 (fun i => lN (if i < (k + 1) then P1 i &&& P2 i else 0))), (a, oC 3 [.ref p3, .int (nI 0), .int (nI 0)])]) (by rw [upL_both]) ?_
        exact ih_10 (k + 1) (by omega) (by omega)
  refine w_eq (L' := [(p3, aJ G 6 (fun i => lN (if i < 0 then P1 i &&& P2 i else 0))), (a, oC 3 [.ref p3, .int (nI 0), .int (nI 0)])]) (by rw [upL_0 (f := fun i => P1 i &&& P2 i)]) ?_
  exact loop_10 _ 0 (by omega) (Nat.lt_succ_self _)
