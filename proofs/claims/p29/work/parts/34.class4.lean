theorem tw_5 : (Jvm.Cond.initialized "java/lang/Integer") ∈ TB := tb_of 5 (by decide +kernel) rfl
theorem tw_216 : (Jvm.Cond.constant "java/lang/Integer" (265 : Nat) (1431655765 : Int32)) ∈ TB := tb_of 216 (by decide +kernel) rfl
theorem tw_217 : (Jvm.Cond.constant "java/lang/Integer" (266 : Nat) (858993459 : Int32)) ∈ TB := tb_of 217 (by decide +kernel) rfl
theorem tw_218 : (Jvm.Cond.constant "java/lang/Integer" (267 : Nat) (252645135 : Int32)) ∈ TB := tb_of 218 (by decide +kernel) rfl
theorem tw_576 : (Jvm.Cond.constant "java/lang/Integer" (127 : Nat) (-2147483648 : Int32)) ∈ TB := tb_of 576 (by decide +kernel) rfl
theorem tw_577 : (Jvm.Cond.methodLink "java/lang/Integer" (51 : Nat) ({ cls := "java/lang/Integer", name := "numberOfLeadingZeros", desc := "(I)I" } : Jvm.MethodName)) ∈ TB := tb_of 577 (by decide +kernel) rfl
theorem tw_578 : (Jvm.Cond.static ({ cls := "java/lang/Integer", name := "numberOfLeadingZeros", desc := "(I)I" } : Jvm.MethodName)) ∈ TB := tb_of 578 (by decide +kernel) rfl
theorem tw_579 : (Jvm.Cond.code ({ cls := "java/lang/Integer", name := "numberOfLeadingZeros", desc := "(I)I" } : Jvm.MethodName) prog_14_method_47_code (2 : Nat) (Option.some Jvm.ClassFile.FieldType.int)) ∈ TB := tb_of 579 (by decide +kernel) rfl
theorem tw_580 : (Jvm.Cond.constant "java/lang/Integer" (264 : Nat) (65536 : Int32)) ∈ TB := tb_of 580 (by decide +kernel) rfl
theorem ok_RJ6_51 : okS RJ6 51 yJ6_numberOfLeadingZeros_0f7a4 cJ6_numberOfLeadingZeros_0f7a4 2 (Option.some Jvm.ClassFile.FieldType.int) 1 := ⟨tw_577, tw_578, tw_5, tw_579, ⟨by decide, by decide, by decide +kernel⟩⟩
theorem r_ldcw {G : eG} {x : CX} {n1 n2 : Nat} {h : hp} {pc nx : Nat} {lv : List (Nat × Value)} {st : List Value} {own : String} {cc : ByteArray} {rm : Room} {nL : Nat} (C : cxOk G own cc rm nL x) {i : Nat} {v : Int32} (d : dn cc pc (.ldc_w i) 3 nx) (hc : Jvm.Cond.constant own i v ∈ TB) (kk : VV G x n1 n2 h nx lv (.int v :: st)) : VV G x n1 n2 h pc lv st := by
  obtain ⟨p, l, e, R, s, m, args, below, meth, c, Q, n⟩ := x
  obtain ⟨d, rfl⟩ := d
  intro H locs ls hh hS hl
  exact lv_ldcw C.1 C.2.1 C.2.2.2.1 (C.2.2.2.2.1 _ hc) d (kk H locs ls hh hS hl)
def popc (v : Nat) : Nat := sumTo (fun k => v / 2 ^ k % 2) 9
def nlzN (v : Nat) : Nat := if hb v 8 = 0 then 32 else 31 - hb v 8
def hobN (v : Nat) : Nat := if hb v 8 = 0 then 0 else 2 ^ hb v 8
theorem sumTo_front (f : Nat → Nat) : ∀ k, sumTo f (k + 1) = f 0 + sumTo (fun j => f (j + 1)) k
  | 0 => by simp [sumTo]
  | k + 1 => by rw [sumTo, sumTo_front f k, sumTo, Nat.add_assoc]
theorem popc_8 {v : Nat} (h : v % 2 = 0) : popc v = bits8 v := by
  unfold popc bits8
  rw [sumTo_front, Nat.pow_zero, Nat.div_one, h, Nat.zero_add]
def dl_J6_bitCount_0f7a4 : List (Nat × Instr × Nat) := [(0, .iload_n 0, 1), (1, .iload_n 0, 1), (2, .iconst 1, 1), (3, .iushr, 1), (4, .ldc_w 265, 3), (7, .iand, 1), (8, .isub, 1), (9, .istore_n 0, 1), (10, .iload_n 0, 1), (11, .ldc_w 266, 3), (14, .iand, 1), (15, .iload_n 0, 1), (16, .iconst 2, 1), (17, .iushr, 1), (18, .ldc_w 266, 3), (21, .iand, 1), (22, .iadd, 1), (23, .istore_n 0, 1), (24, .iload_n 0, 1), (25, .iload_n 0, 1), (26, .iconst 4, 1), (27, .iushr, 1), (28, .iadd, 1), (29, .ldc_w 267, 3), (32, .iand, 1), (33, .istore_n 0, 1), (34, .iload_n 0, 1), (35, .iload_n 0, 1), (36, .bipush 8, 2), (38, .iushr, 1), (39, .iadd, 1), (40, .istore_n 0, 1), (41, .iload_n 0, 1), (42, .iload_n 0, 1), (43, .bipush 16, 2), (45, .iushr, 1), (46, .iadd, 1), (47, .istore_n 0, 1), (48, .iload_n 0, 1), (49, .bipush 63, 2), (51, .iand, 1), (52, .ireturn, 1)]
theorem dc_J6_bitCount_0f7a4 : dnL cJ6_bitCount_0f7a4 dl_J6_bitCount_0f7a4 = true := by decide +kernel
theorem d_J6_bitCount_0f7a4_0 : dn cJ6_bitCount_0f7a4 0 (.iload_n 0) 1 1 := dnAt dc_J6_bitCount_0f7a4 0 rfl rfl
theorem d_J6_bitCount_0f7a4_1 : dn cJ6_bitCount_0f7a4 1 (.iload_n 0) 1 2 := dnAt dc_J6_bitCount_0f7a4 1 rfl rfl
theorem d_J6_bitCount_0f7a4_2 : dn cJ6_bitCount_0f7a4 2 (.iconst 1) 1 3 := dnAt dc_J6_bitCount_0f7a4 2 rfl rfl
theorem d_J6_bitCount_0f7a4_3 : dn cJ6_bitCount_0f7a4 3 (.iushr) 1 4 := dnAt dc_J6_bitCount_0f7a4 3 rfl rfl
theorem d_J6_bitCount_0f7a4_4 : dn cJ6_bitCount_0f7a4 4 (.ldc_w 265) 3 7 := dnAt dc_J6_bitCount_0f7a4 4 rfl rfl
theorem d_J6_bitCount_0f7a4_7 : dn cJ6_bitCount_0f7a4 7 (.iand) 1 8 := dnAt dc_J6_bitCount_0f7a4 5 rfl rfl
theorem d_J6_bitCount_0f7a4_8 : dn cJ6_bitCount_0f7a4 8 (.isub) 1 9 := dnAt dc_J6_bitCount_0f7a4 6 rfl rfl
theorem d_J6_bitCount_0f7a4_9 : dn cJ6_bitCount_0f7a4 9 (.istore_n 0) 1 10 := dnAt dc_J6_bitCount_0f7a4 7 rfl rfl
theorem d_J6_bitCount_0f7a4_10 : dn cJ6_bitCount_0f7a4 10 (.iload_n 0) 1 11 := dnAt dc_J6_bitCount_0f7a4 8 rfl rfl
theorem d_J6_bitCount_0f7a4_11 : dn cJ6_bitCount_0f7a4 11 (.ldc_w 266) 3 14 := dnAt dc_J6_bitCount_0f7a4 9 rfl rfl
theorem d_J6_bitCount_0f7a4_14 : dn cJ6_bitCount_0f7a4 14 (.iand) 1 15 := dnAt dc_J6_bitCount_0f7a4 10 rfl rfl
theorem d_J6_bitCount_0f7a4_15 : dn cJ6_bitCount_0f7a4 15 (.iload_n 0) 1 16 := dnAt dc_J6_bitCount_0f7a4 11 rfl rfl
theorem d_J6_bitCount_0f7a4_16 : dn cJ6_bitCount_0f7a4 16 (.iconst 2) 1 17 := dnAt dc_J6_bitCount_0f7a4 12 rfl rfl
theorem d_J6_bitCount_0f7a4_17 : dn cJ6_bitCount_0f7a4 17 (.iushr) 1 18 := dnAt dc_J6_bitCount_0f7a4 13 rfl rfl
theorem d_J6_bitCount_0f7a4_18 : dn cJ6_bitCount_0f7a4 18 (.ldc_w 266) 3 21 := dnAt dc_J6_bitCount_0f7a4 14 rfl rfl
theorem d_J6_bitCount_0f7a4_21 : dn cJ6_bitCount_0f7a4 21 (.iand) 1 22 := dnAt dc_J6_bitCount_0f7a4 15 rfl rfl
theorem d_J6_bitCount_0f7a4_22 : dn cJ6_bitCount_0f7a4 22 (.iadd) 1 23 := dnAt dc_J6_bitCount_0f7a4 16 rfl rfl
theorem d_J6_bitCount_0f7a4_23 : dn cJ6_bitCount_0f7a4 23 (.istore_n 0) 1 24 := dnAt dc_J6_bitCount_0f7a4 17 rfl rfl
theorem d_J6_bitCount_0f7a4_24 : dn cJ6_bitCount_0f7a4 24 (.iload_n 0) 1 25 := dnAt dc_J6_bitCount_0f7a4 18 rfl rfl
theorem d_J6_bitCount_0f7a4_25 : dn cJ6_bitCount_0f7a4 25 (.iload_n 0) 1 26 := dnAt dc_J6_bitCount_0f7a4 19 rfl rfl
theorem d_J6_bitCount_0f7a4_26 : dn cJ6_bitCount_0f7a4 26 (.iconst 4) 1 27 := dnAt dc_J6_bitCount_0f7a4 20 rfl rfl
theorem d_J6_bitCount_0f7a4_27 : dn cJ6_bitCount_0f7a4 27 (.iushr) 1 28 := dnAt dc_J6_bitCount_0f7a4 21 rfl rfl
theorem d_J6_bitCount_0f7a4_28 : dn cJ6_bitCount_0f7a4 28 (.iadd) 1 29 := dnAt dc_J6_bitCount_0f7a4 22 rfl rfl
theorem d_J6_bitCount_0f7a4_29 : dn cJ6_bitCount_0f7a4 29 (.ldc_w 267) 3 32 := dnAt dc_J6_bitCount_0f7a4 23 rfl rfl
theorem d_J6_bitCount_0f7a4_32 : dn cJ6_bitCount_0f7a4 32 (.iand) 1 33 := dnAt dc_J6_bitCount_0f7a4 24 rfl rfl
theorem d_J6_bitCount_0f7a4_33 : dn cJ6_bitCount_0f7a4 33 (.istore_n 0) 1 34 := dnAt dc_J6_bitCount_0f7a4 25 rfl rfl
theorem d_J6_bitCount_0f7a4_34 : dn cJ6_bitCount_0f7a4 34 (.iload_n 0) 1 35 := dnAt dc_J6_bitCount_0f7a4 26 rfl rfl
theorem d_J6_bitCount_0f7a4_35 : dn cJ6_bitCount_0f7a4 35 (.iload_n 0) 1 36 := dnAt dc_J6_bitCount_0f7a4 27 rfl rfl
theorem d_J6_bitCount_0f7a4_36 : dn cJ6_bitCount_0f7a4 36 (.bipush 8) 2 38 := dnAt dc_J6_bitCount_0f7a4 28 rfl rfl
theorem d_J6_bitCount_0f7a4_38 : dn cJ6_bitCount_0f7a4 38 (.iushr) 1 39 := dnAt dc_J6_bitCount_0f7a4 29 rfl rfl
theorem d_J6_bitCount_0f7a4_39 : dn cJ6_bitCount_0f7a4 39 (.iadd) 1 40 := dnAt dc_J6_bitCount_0f7a4 30 rfl rfl
theorem d_J6_bitCount_0f7a4_40 : dn cJ6_bitCount_0f7a4 40 (.istore_n 0) 1 41 := dnAt dc_J6_bitCount_0f7a4 31 rfl rfl
theorem d_J6_bitCount_0f7a4_41 : dn cJ6_bitCount_0f7a4 41 (.iload_n 0) 1 42 := dnAt dc_J6_bitCount_0f7a4 32 rfl rfl
theorem d_J6_bitCount_0f7a4_42 : dn cJ6_bitCount_0f7a4 42 (.iload_n 0) 1 43 := dnAt dc_J6_bitCount_0f7a4 33 rfl rfl
theorem d_J6_bitCount_0f7a4_43 : dn cJ6_bitCount_0f7a4 43 (.bipush 16) 2 45 := dnAt dc_J6_bitCount_0f7a4 34 rfl rfl
theorem d_J6_bitCount_0f7a4_45 : dn cJ6_bitCount_0f7a4 45 (.iushr) 1 46 := dnAt dc_J6_bitCount_0f7a4 35 rfl rfl
theorem d_J6_bitCount_0f7a4_46 : dn cJ6_bitCount_0f7a4 46 (.iadd) 1 47 := dnAt dc_J6_bitCount_0f7a4 36 rfl rfl
theorem d_J6_bitCount_0f7a4_47 : dn cJ6_bitCount_0f7a4 47 (.istore_n 0) 1 48 := dnAt dc_J6_bitCount_0f7a4 37 rfl rfl
theorem d_J6_bitCount_0f7a4_48 : dn cJ6_bitCount_0f7a4 48 (.iload_n 0) 1 49 := dnAt dc_J6_bitCount_0f7a4 38 rfl rfl
theorem d_J6_bitCount_0f7a4_49 : dn cJ6_bitCount_0f7a4 49 (.bipush 63) 2 51 := dnAt dc_J6_bitCount_0f7a4 39 rfl rfl
theorem d_J6_bitCount_0f7a4_51 : dn cJ6_bitCount_0f7a4 51 (.iand) 1 52 := dnAt dc_J6_bitCount_0f7a4 40 rfl rfl
theorem d_J6_bitCount_0f7a4_52 : dn cJ6_bitCount_0f7a4 52 (.ireturn) 1 53 := dnAt dc_J6_bitCount_0f7a4 41 rfl rfl
set_option maxHeartbeats 4000000 in
set_option maxRecDepth 100000 in
theorem s_bitCount (v : Nat) (hv : v < 512) : sC yJ6_bitCount_0f7a4 cJ6_bitCount_0f7a4 1 (Option.some Jvm.ClassFile.FieldType.int) { frames := 0, cells := 0, slots := 0, locals := 0 } [.int (nI v)] (some (.int (nI (popc v)))) := by
  refine sC.of (by decide) (Nat.le_of_ble_eq_true rfl) ?_
  intro G x h C A TY
  show VV G x 0 0 h 0 [(0, .int (nI v))] []
  refine r_iload_n C d_J6_bitCount_0f7a4_0 0 rfl ?_
  refine r_iload_n C d_J6_bitCount_0f7a4_1 0 rfl ?_
  refine r_iconst C d_J6_bitCount_0f7a4_2 (v := (nI 1)) rfl ?_
  refine r_iushr C d_J6_bitCount_0f7a4_3 ?_
  refine r_ldcw C d_J6_bitCount_0f7a4_4 (v := nI 1431655765) tw_216 ?_
  refine r_iand C d_J6_bitCount_0f7a4_7 ?_
  refine r_isub C d_J6_bitCount_0f7a4_8 ?_
  refine r_istore_n C d_J6_bitCount_0f7a4_9 (lv' := [(0, .int ((nI v) - ((((nI v).toUInt32 >>> ((nI 1).toUInt32 &&& Int32.toUInt32 31)).toInt32) &&& (nI 1431655765))))]) (by decide) rfl ?_
  refine r_iload_n C d_J6_bitCount_0f7a4_10 0 rfl ?_
  refine r_ldcw C d_J6_bitCount_0f7a4_11 (v := nI 858993459) tw_217 ?_
  refine r_iand C d_J6_bitCount_0f7a4_14 ?_
  refine r_iload_n C d_J6_bitCount_0f7a4_15 0 rfl ?_
  refine r_iconst C d_J6_bitCount_0f7a4_16 (v := (nI 2)) rfl ?_
  refine r_iushr C d_J6_bitCount_0f7a4_17 ?_
  refine r_ldcw C d_J6_bitCount_0f7a4_18 (v := nI 858993459) tw_217 ?_
  refine r_iand C d_J6_bitCount_0f7a4_21 ?_
  refine r_iadd C d_J6_bitCount_0f7a4_22 ?_
  refine r_istore_n C d_J6_bitCount_0f7a4_23 (lv' := [(0, .int ((((nI v) - ((((nI v).toUInt32 >>> ((nI 1).toUInt32 &&& Int32.toUInt32 31)).toInt32) &&& (nI 1431655765))) &&& (nI 858993459)) + (((((nI v) - ((((nI v).toUInt32 >>> ((nI 1).toUInt32 &&& Int32.toUInt32 31)).toInt32) &&& (nI 1431655765))).toUInt32 >>> ((nI 2).toUInt32 &&& Int32.toUInt32 31)).toInt32) &&& (nI 858993459))))]) (by decide) rfl ?_
  refine r_iload_n C d_J6_bitCount_0f7a4_24 0 rfl ?_
  refine r_iload_n C d_J6_bitCount_0f7a4_25 0 rfl ?_
  refine r_iconst C d_J6_bitCount_0f7a4_26 (v := (nI 4)) rfl ?_
  refine r_iushr C d_J6_bitCount_0f7a4_27 ?_
  refine r_iadd C d_J6_bitCount_0f7a4_28 ?_
  refine r_ldcw C d_J6_bitCount_0f7a4_29 (v := nI 252645135) tw_218 ?_
  refine r_iand C d_J6_bitCount_0f7a4_32 ?_
  refine r_istore_n C d_J6_bitCount_0f7a4_33 (lv' := [(0, .int ((((((nI v) - ((((nI v).toUInt32 >>> ((nI 1).toUInt32 &&& Int32.toUInt32 31)).toInt32) &&& (nI 1431655765))) &&& (nI 858993459)) + (((((nI v) - ((((nI v).toUInt32 >>> ((nI 1).toUInt32 &&& Int32.toUInt32 31)).toInt32) &&& (nI 1431655765))).toUInt32 >>> ((nI 2).toUInt32 &&& Int32.toUInt32 31)).toInt32) &&& (nI 858993459))) + ((((((nI v) - ((((nI v).toUInt32 >>> ((nI 1).toUInt32 &&& Int32.toUInt32 31)).toInt32) &&& (nI 1431655765))) &&& (nI 858993459)) + (((((nI v) - ((((nI v).toUInt32 >>> ((nI 1).toUInt32 &&& Int32.toUInt32 31)).toInt32) &&& (nI 1431655765))).toUInt32 >>> ((nI 2).toUInt32 &&& Int32.toUInt32 31)).toInt32) &&& (nI 858993459))).toUInt32 >>> ((nI 4).toUInt32 &&& Int32.toUInt32 31)).toInt32)) &&& (nI 252645135)))]) (by decide) rfl ?_
  refine r_iload_n C d_J6_bitCount_0f7a4_34 0 rfl ?_
  refine r_iload_n C d_J6_bitCount_0f7a4_35 0 rfl ?_
  refine r_bipush C d_J6_bitCount_0f7a4_36 (v := (nI 8)) rfl ?_
  refine r_iushr C d_J6_bitCount_0f7a4_38 ?_
  refine r_iadd C d_J6_bitCount_0f7a4_39 ?_
  refine r_istore_n C d_J6_bitCount_0f7a4_40 (lv' := [(0, .int (((((((nI v) - ((((nI v).toUInt32 >>> ((nI 1).toUInt32 &&& Int32.toUInt32 31)).toInt32) &&& (nI 1431655765))) &&& (nI 858993459)) + (((((nI v) - ((((nI v).toUInt32 >>> ((nI 1).toUInt32 &&& Int32.toUInt32 31)).toInt32) &&& (nI 1431655765))).toUInt32 >>> ((nI 2).toUInt32 &&& Int32.toUInt32 31)).toInt32) &&& (nI 858993459))) + ((((((nI v) - ((((nI v).toUInt32 >>> ((nI 1).toUInt32 &&& Int32.toUInt32 31)).toInt32) &&& (nI 1431655765))) &&& (nI 858993459)) + (((((nI v) - ((((nI v).toUInt32 >>> ((nI 1).toUInt32 &&& Int32.toUInt32 31)).toInt32) &&& (nI 1431655765))).toUInt32 >>> ((nI 2).toUInt32 &&& Int32.toUInt32 31)).toInt32) &&& (nI 858993459))).toUInt32 >>> ((nI 4).toUInt32 &&& Int32.toUInt32 31)).toInt32)) &&& (nI 252645135)) + ((((((((nI v) - ((((nI v).toUInt32 >>> ((nI 1).toUInt32 &&& Int32.toUInt32 31)).toInt32) &&& (nI 1431655765))) &&& (nI 858993459)) + (((((nI v) - ((((nI v).toUInt32 >>> ((nI 1).toUInt32 &&& Int32.toUInt32 31)).toInt32) &&& (nI 1431655765))).toUInt32 >>> ((nI 2).toUInt32 &&& Int32.toUInt32 31)).toInt32) &&& (nI 858993459))) + ((((((nI v) - ((((nI v).toUInt32 >>> ((nI 1).toUInt32 &&& Int32.toUInt32 31)).toInt32) &&& (nI 1431655765))) &&& (nI 858993459)) + (((((nI v) - ((((nI v).toUInt32 >>> ((nI 1).toUInt32 &&& Int32.toUInt32 31)).toInt32) &&& (nI 1431655765))).toUInt32 >>> ((nI 2).toUInt32 &&& Int32.toUInt32 31)).toInt32) &&& (nI 858993459))).toUInt32 >>> ((nI 4).toUInt32 &&& Int32.toUInt32 31)).toInt32)) &&& (nI 252645135)).toUInt32 >>> ((nI 8).toUInt32 &&& Int32.toUInt32 31)).toInt32)))]) (by decide) rfl ?_
  refine r_iload_n C d_J6_bitCount_0f7a4_41 0 rfl ?_
  refine r_iload_n C d_J6_bitCount_0f7a4_42 0 rfl ?_
  refine r_bipush C d_J6_bitCount_0f7a4_43 (v := (nI 16)) rfl ?_
  refine r_iushr C d_J6_bitCount_0f7a4_45 ?_
  refine r_iadd C d_J6_bitCount_0f7a4_46 ?_
  refine r_istore_n C d_J6_bitCount_0f7a4_47 (lv' := [(0, .int ((((((((nI v) - ((((nI v).toUInt32 >>> ((nI 1).toUInt32 &&& Int32.toUInt32 31)).toInt32) &&& (nI 1431655765))) &&& (nI 858993459)) + (((((nI v) - ((((nI v).toUInt32 >>> ((nI 1).toUInt32 &&& Int32.toUInt32 31)).toInt32) &&& (nI 1431655765))).toUInt32 >>> ((nI 2).toUInt32 &&& Int32.toUInt32 31)).toInt32) &&& (nI 858993459))) + ((((((nI v) - ((((nI v).toUInt32 >>> ((nI 1).toUInt32 &&& Int32.toUInt32 31)).toInt32) &&& (nI 1431655765))) &&& (nI 858993459)) + (((((nI v) - ((((nI v).toUInt32 >>> ((nI 1).toUInt32 &&& Int32.toUInt32 31)).toInt32) &&& (nI 1431655765))).toUInt32 >>> ((nI 2).toUInt32 &&& Int32.toUInt32 31)).toInt32) &&& (nI 858993459))).toUInt32 >>> ((nI 4).toUInt32 &&& Int32.toUInt32 31)).toInt32)) &&& (nI 252645135)) + ((((((((nI v) - ((((nI v).toUInt32 >>> ((nI 1).toUInt32 &&& Int32.toUInt32 31)).toInt32) &&& (nI 1431655765))) &&& (nI 858993459)) + (((((nI v) - ((((nI v).toUInt32 >>> ((nI 1).toUInt32 &&& Int32.toUInt32 31)).toInt32) &&& (nI 1431655765))).toUInt32 >>> ((nI 2).toUInt32 &&& Int32.toUInt32 31)).toInt32) &&& (nI 858993459))) + ((((((nI v) - ((((nI v).toUInt32 >>> ((nI 1).toUInt32 &&& Int32.toUInt32 31)).toInt32) &&& (nI 1431655765))) &&& (nI 858993459)) + (((((nI v) - ((((nI v).toUInt32 >>> ((nI 1).toUInt32 &&& Int32.toUInt32 31)).toInt32) &&& (nI 1431655765))).toUInt32 >>> ((nI 2).toUInt32 &&& Int32.toUInt32 31)).toInt32) &&& (nI 858993459))).toUInt32 >>> ((nI 4).toUInt32 &&& Int32.toUInt32 31)).toInt32)) &&& (nI 252645135)).toUInt32 >>> ((nI 8).toUInt32 &&& Int32.toUInt32 31)).toInt32)) + (((((((((nI v) - ((((nI v).toUInt32 >>> ((nI 1).toUInt32 &&& Int32.toUInt32 31)).toInt32) &&& (nI 1431655765))) &&& (nI 858993459)) + (((((nI v) - ((((nI v).toUInt32 >>> ((nI 1).toUInt32 &&& Int32.toUInt32 31)).toInt32) &&& (nI 1431655765))).toUInt32 >>> ((nI 2).toUInt32 &&& Int32.toUInt32 31)).toInt32) &&& (nI 858993459))) + ((((((nI v) - ((((nI v).toUInt32 >>> ((nI 1).toUInt32 &&& Int32.toUInt32 31)).toInt32) &&& (nI 1431655765))) &&& (nI 858993459)) + (((((nI v) - ((((nI v).toUInt32 >>> ((nI 1).toUInt32 &&& Int32.toUInt32 31)).toInt32) &&& (nI 1431655765))).toUInt32 >>> ((nI 2).toUInt32 &&& Int32.toUInt32 31)).toInt32) &&& (nI 858993459))).toUInt32 >>> ((nI 4).toUInt32 &&& Int32.toUInt32 31)).toInt32)) &&& (nI 252645135)) + ((((((((nI v) - ((((nI v).toUInt32 >>> ((nI 1).toUInt32 &&& Int32.toUInt32 31)).toInt32) &&& (nI 1431655765))) &&& (nI 858993459)) + (((((nI v) - ((((nI v).toUInt32 >>> ((nI 1).toUInt32 &&& Int32.toUInt32 31)).toInt32) &&& (nI 1431655765))).toUInt32 >>> ((nI 2).toUInt32 &&& Int32.toUInt32 31)).toInt32) &&& (nI 858993459))) + ((((((nI v) - ((((nI v).toUInt32 >>> ((nI 1).toUInt32 &&& Int32.toUInt32 31)).toInt32) &&& (nI 1431655765))) &&& (nI 858993459)) + (((((nI v) - ((((nI v).toUInt32 >>> ((nI 1).toUInt32 &&& Int32.toUInt32 31)).toInt32) &&& (nI 1431655765))).toUInt32 >>> ((nI 2).toUInt32 &&& Int32.toUInt32 31)).toInt32) &&& (nI 858993459))).toUInt32 >>> ((nI 4).toUInt32 &&& Int32.toUInt32 31)).toInt32)) &&& (nI 252645135)).toUInt32 >>> ((nI 8).toUInt32 &&& Int32.toUInt32 31)).toInt32)).toUInt32 >>> ((nI 16).toUInt32 &&& Int32.toUInt32 31)).toInt32)))]) (by decide) rfl ?_
  refine r_iload_n C d_J6_bitCount_0f7a4_48 0 rfl ?_
  refine r_bipush C d_J6_bitCount_0f7a4_49 (v := (nI 63)) rfl ?_
  refine r_iand C d_J6_bitCount_0f7a4_51 ?_
  refine r_st (st' := [.int (nI (popc v))]) (congrArg (fun z => [Value.int z]) (by clear A; revert v; decide +kernel)) ?_
  exact r_iret C A TY d_J6_bitCount_0f7a4_52 rfl (by decide) (by decide) (⟨rfl, rfl⟩)
def dl_J6_numberOfLeadingZeros_0f7a4 : List (Nat × Instr × Nat) := [(0, .iload_n 0, 1), (1, .ifCond .gt 14, 3), (4, .iload_n 0, 1), (5, .ifCond .ne 8, 3), (8, .bipush 32, 2), (10, .goto 4, 3), (13, .iconst 0, 1), (14, .ireturn, 1), (15, .bipush 31, 2), (17, .istore_n 1, 1), (18, .iload_n 0, 1), (19, .ldc_w 264, 3), (22, .if_icmp .lt 11, 3), (25, .iinc 1 (-16), 3), (28, .iload_n 0, 1), (29, .bipush 16, 2), (31, .iushr, 1), (32, .istore_n 0, 1), (33, .iload_n 0, 1), (34, .sipush 256, 3), (37, .if_icmp .lt 11, 3), (40, .iinc 1 (-8), 3), (43, .iload_n 0, 1), (44, .bipush 8, 2), (46, .iushr, 1), (47, .istore_n 0, 1), (48, .iload_n 0, 1), (49, .bipush 16, 2), (51, .if_icmp .lt 10, 3), (54, .iinc 1 (-4), 3), (57, .iload_n 0, 1), (58, .iconst 4, 1), (59, .iushr, 1), (60, .istore_n 0, 1), (61, .iload_n 0, 1), (62, .iconst 4, 1), (63, .if_icmp .lt 10, 3), (66, .iinc 1 (-2), 3), (69, .iload_n 0, 1), (70, .iconst 2, 1), (71, .iushr, 1), (72, .istore_n 0, 1), (73, .iload_n 1, 1), (74, .iload_n 0, 1), (75, .iconst 1, 1), (76, .iushr, 1), (77, .isub, 1), (78, .ireturn, 1)]
theorem dc_J6_numberOfLeadingZeros_0f7a4 : dnL cJ6_numberOfLeadingZeros_0f7a4 dl_J6_numberOfLeadingZeros_0f7a4 = true := by decide +kernel
theorem d_J6_numberOfLeadingZeros_0f7a4_0 : dn cJ6_numberOfLeadingZeros_0f7a4 0 (.iload_n 0) 1 1 := dnAt dc_J6_numberOfLeadingZeros_0f7a4 0 rfl rfl
theorem d_J6_numberOfLeadingZeros_0f7a4_1 : dn cJ6_numberOfLeadingZeros_0f7a4 1 (.ifCond .gt 14) 3 4 := dnAt dc_J6_numberOfLeadingZeros_0f7a4 1 rfl rfl
theorem d_J6_numberOfLeadingZeros_0f7a4_4 : dn cJ6_numberOfLeadingZeros_0f7a4 4 (.iload_n 0) 1 5 := dnAt dc_J6_numberOfLeadingZeros_0f7a4 2 rfl rfl
theorem d_J6_numberOfLeadingZeros_0f7a4_5 : dn cJ6_numberOfLeadingZeros_0f7a4 5 (.ifCond .ne 8) 3 8 := dnAt dc_J6_numberOfLeadingZeros_0f7a4 3 rfl rfl
theorem d_J6_numberOfLeadingZeros_0f7a4_8 : dn cJ6_numberOfLeadingZeros_0f7a4 8 (.bipush 32) 2 10 := dnAt dc_J6_numberOfLeadingZeros_0f7a4 4 rfl rfl
theorem d_J6_numberOfLeadingZeros_0f7a4_10 : dn cJ6_numberOfLeadingZeros_0f7a4 10 (.goto 4) 3 13 := dnAt dc_J6_numberOfLeadingZeros_0f7a4 5 rfl rfl
theorem d_J6_numberOfLeadingZeros_0f7a4_14 : dn cJ6_numberOfLeadingZeros_0f7a4 14 (.ireturn) 1 15 := dnAt dc_J6_numberOfLeadingZeros_0f7a4 7 rfl rfl
theorem d_J6_numberOfLeadingZeros_0f7a4_15 : dn cJ6_numberOfLeadingZeros_0f7a4 15 (.bipush 31) 2 17 := dnAt dc_J6_numberOfLeadingZeros_0f7a4 8 rfl rfl
theorem d_J6_numberOfLeadingZeros_0f7a4_17 : dn cJ6_numberOfLeadingZeros_0f7a4 17 (.istore_n 1) 1 18 := dnAt dc_J6_numberOfLeadingZeros_0f7a4 9 rfl rfl
theorem d_J6_numberOfLeadingZeros_0f7a4_18 : dn cJ6_numberOfLeadingZeros_0f7a4 18 (.iload_n 0) 1 19 := dnAt dc_J6_numberOfLeadingZeros_0f7a4 10 rfl rfl
theorem d_J6_numberOfLeadingZeros_0f7a4_19 : dn cJ6_numberOfLeadingZeros_0f7a4 19 (.ldc_w 264) 3 22 := dnAt dc_J6_numberOfLeadingZeros_0f7a4 11 rfl rfl
theorem d_J6_numberOfLeadingZeros_0f7a4_22 : dn cJ6_numberOfLeadingZeros_0f7a4 22 (.if_icmp .lt 11) 3 25 := dnAt dc_J6_numberOfLeadingZeros_0f7a4 12 rfl rfl
theorem d_J6_numberOfLeadingZeros_0f7a4_33 : dn cJ6_numberOfLeadingZeros_0f7a4 33 (.iload_n 0) 1 34 := dnAt dc_J6_numberOfLeadingZeros_0f7a4 18 rfl rfl
theorem d_J6_numberOfLeadingZeros_0f7a4_34 : dn cJ6_numberOfLeadingZeros_0f7a4 34 (.sipush 256) 3 37 := dnAt dc_J6_numberOfLeadingZeros_0f7a4 19 rfl rfl
theorem d_J6_numberOfLeadingZeros_0f7a4_37 : dn cJ6_numberOfLeadingZeros_0f7a4 37 (.if_icmp .lt 11) 3 40 := dnAt dc_J6_numberOfLeadingZeros_0f7a4 20 rfl rfl
theorem d_J6_numberOfLeadingZeros_0f7a4_40 : dn cJ6_numberOfLeadingZeros_0f7a4 40 (.iinc 1 (-8)) 3 43 := dnAt dc_J6_numberOfLeadingZeros_0f7a4 21 rfl rfl
theorem d_J6_numberOfLeadingZeros_0f7a4_43 : dn cJ6_numberOfLeadingZeros_0f7a4 43 (.iload_n 0) 1 44 := dnAt dc_J6_numberOfLeadingZeros_0f7a4 22 rfl rfl
theorem d_J6_numberOfLeadingZeros_0f7a4_44 : dn cJ6_numberOfLeadingZeros_0f7a4 44 (.bipush 8) 2 46 := dnAt dc_J6_numberOfLeadingZeros_0f7a4 23 rfl rfl
theorem d_J6_numberOfLeadingZeros_0f7a4_46 : dn cJ6_numberOfLeadingZeros_0f7a4 46 (.iushr) 1 47 := dnAt dc_J6_numberOfLeadingZeros_0f7a4 24 rfl rfl
theorem d_J6_numberOfLeadingZeros_0f7a4_47 : dn cJ6_numberOfLeadingZeros_0f7a4 47 (.istore_n 0) 1 48 := dnAt dc_J6_numberOfLeadingZeros_0f7a4 25 rfl rfl
theorem d_J6_numberOfLeadingZeros_0f7a4_48 : dn cJ6_numberOfLeadingZeros_0f7a4 48 (.iload_n 0) 1 49 := dnAt dc_J6_numberOfLeadingZeros_0f7a4 26 rfl rfl
theorem d_J6_numberOfLeadingZeros_0f7a4_49 : dn cJ6_numberOfLeadingZeros_0f7a4 49 (.bipush 16) 2 51 := dnAt dc_J6_numberOfLeadingZeros_0f7a4 27 rfl rfl
theorem d_J6_numberOfLeadingZeros_0f7a4_51 : dn cJ6_numberOfLeadingZeros_0f7a4 51 (.if_icmp .lt 10) 3 54 := dnAt dc_J6_numberOfLeadingZeros_0f7a4 28 rfl rfl
theorem d_J6_numberOfLeadingZeros_0f7a4_54 : dn cJ6_numberOfLeadingZeros_0f7a4 54 (.iinc 1 (-4)) 3 57 := dnAt dc_J6_numberOfLeadingZeros_0f7a4 29 rfl rfl
theorem d_J6_numberOfLeadingZeros_0f7a4_57 : dn cJ6_numberOfLeadingZeros_0f7a4 57 (.iload_n 0) 1 58 := dnAt dc_J6_numberOfLeadingZeros_0f7a4 30 rfl rfl
theorem d_J6_numberOfLeadingZeros_0f7a4_58 : dn cJ6_numberOfLeadingZeros_0f7a4 58 (.iconst 4) 1 59 := dnAt dc_J6_numberOfLeadingZeros_0f7a4 31 rfl rfl
theorem d_J6_numberOfLeadingZeros_0f7a4_59 : dn cJ6_numberOfLeadingZeros_0f7a4 59 (.iushr) 1 60 := dnAt dc_J6_numberOfLeadingZeros_0f7a4 32 rfl rfl
theorem d_J6_numberOfLeadingZeros_0f7a4_60 : dn cJ6_numberOfLeadingZeros_0f7a4 60 (.istore_n 0) 1 61 := dnAt dc_J6_numberOfLeadingZeros_0f7a4 33 rfl rfl
theorem d_J6_numberOfLeadingZeros_0f7a4_61 : dn cJ6_numberOfLeadingZeros_0f7a4 61 (.iload_n 0) 1 62 := dnAt dc_J6_numberOfLeadingZeros_0f7a4 34 rfl rfl
theorem d_J6_numberOfLeadingZeros_0f7a4_62 : dn cJ6_numberOfLeadingZeros_0f7a4 62 (.iconst 4) 1 63 := dnAt dc_J6_numberOfLeadingZeros_0f7a4 35 rfl rfl
theorem d_J6_numberOfLeadingZeros_0f7a4_63 : dn cJ6_numberOfLeadingZeros_0f7a4 63 (.if_icmp .lt 10) 3 66 := dnAt dc_J6_numberOfLeadingZeros_0f7a4 36 rfl rfl
theorem d_J6_numberOfLeadingZeros_0f7a4_66 : dn cJ6_numberOfLeadingZeros_0f7a4 66 (.iinc 1 (-2)) 3 69 := dnAt dc_J6_numberOfLeadingZeros_0f7a4 37 rfl rfl
theorem d_J6_numberOfLeadingZeros_0f7a4_69 : dn cJ6_numberOfLeadingZeros_0f7a4 69 (.iload_n 0) 1 70 := dnAt dc_J6_numberOfLeadingZeros_0f7a4 38 rfl rfl
theorem d_J6_numberOfLeadingZeros_0f7a4_70 : dn cJ6_numberOfLeadingZeros_0f7a4 70 (.iconst 2) 1 71 := dnAt dc_J6_numberOfLeadingZeros_0f7a4 39 rfl rfl
theorem d_J6_numberOfLeadingZeros_0f7a4_71 : dn cJ6_numberOfLeadingZeros_0f7a4 71 (.iushr) 1 72 := dnAt dc_J6_numberOfLeadingZeros_0f7a4 40 rfl rfl
theorem d_J6_numberOfLeadingZeros_0f7a4_72 : dn cJ6_numberOfLeadingZeros_0f7a4 72 (.istore_n 0) 1 73 := dnAt dc_J6_numberOfLeadingZeros_0f7a4 41 rfl rfl
theorem d_J6_numberOfLeadingZeros_0f7a4_73 : dn cJ6_numberOfLeadingZeros_0f7a4 73 (.iload_n 1) 1 74 := dnAt dc_J6_numberOfLeadingZeros_0f7a4 42 rfl rfl
theorem d_J6_numberOfLeadingZeros_0f7a4_74 : dn cJ6_numberOfLeadingZeros_0f7a4 74 (.iload_n 0) 1 75 := dnAt dc_J6_numberOfLeadingZeros_0f7a4 43 rfl rfl
theorem d_J6_numberOfLeadingZeros_0f7a4_75 : dn cJ6_numberOfLeadingZeros_0f7a4 75 (.iconst 1) 1 76 := dnAt dc_J6_numberOfLeadingZeros_0f7a4 44 rfl rfl
theorem d_J6_numberOfLeadingZeros_0f7a4_76 : dn cJ6_numberOfLeadingZeros_0f7a4 76 (.iushr) 1 77 := dnAt dc_J6_numberOfLeadingZeros_0f7a4 45 rfl rfl
theorem d_J6_numberOfLeadingZeros_0f7a4_77 : dn cJ6_numberOfLeadingZeros_0f7a4 77 (.isub) 1 78 := dnAt dc_J6_numberOfLeadingZeros_0f7a4 46 rfl rfl
theorem d_J6_numberOfLeadingZeros_0f7a4_78 : dn cJ6_numberOfLeadingZeros_0f7a4 78 (.ireturn) 1 79 := dnAt dc_J6_numberOfLeadingZeros_0f7a4 47 rfl rfl
set_option maxHeartbeats 4000000 in
set_option maxRecDepth 100000 in
theorem s_nlz (v : Nat) (hv : v < 512) (h2 : v % 2 = 0) : sC yJ6_numberOfLeadingZeros_0f7a4 cJ6_numberOfLeadingZeros_0f7a4 2 (Option.some Jvm.ClassFile.FieldType.int) { frames := 0, cells := 0, slots := 0, locals := 0 } [.int (nI v)] (some (.int (nI (nlzN v)))) := by
  refine sC.of (by decide) (Nat.le_of_ble_eq_true rfl) ?_
  intro G x h C A TY
  show VV G x 0 0 h 0 [(0, .int (nI v))] []
  refine r_iload_n C d_J6_numberOfLeadingZeros_0f7a4_0 0 rfl ?_
  refine rn_if_gt C d_J6_numberOfLeadingZeros_0f7a4_1 (tgt := 15) rfl (by omega) (fun c_1 => ?_) (fun c_1 => ?_)
  · skip
    refine r_bipush C d_J6_numberOfLeadingZeros_0f7a4_15 (v := (nI 31)) rfl ?_
    refine r_istore_n C d_J6_numberOfLeadingZeros_0f7a4_17 (lv' := [(1, .int (nI 31)), (0, .int (nI v))]) (by decide) rfl ?_
    refine r_iload_n C d_J6_numberOfLeadingZeros_0f7a4_18 1 rfl ?_
    refine r_ldcw C d_J6_numberOfLeadingZeros_0f7a4_19 (v := nI 65536) tw_580 ?_
    refine rn_icmp_lt C d_J6_numberOfLeadingZeros_0f7a4_22 (tgt := 33) rfl (by omega) (by omega) (fun c_22 => ?_) (fun c_22 => ?_)
    · skip
      clear c_22
      refine r_iload_n C d_J6_numberOfLeadingZeros_0f7a4_33 1 rfl ?_
      refine r_sipush C d_J6_numberOfLeadingZeros_0f7a4_34 (v := (nI 256)) rfl ?_
      refine rn_icmp_lt C d_J6_numberOfLeadingZeros_0f7a4_37 (tgt := 48) rfl (by omega) (by omega) (fun c_37 => ?_) (fun c_37 => ?_)
      · skip
        refine r_iload_n C d_J6_numberOfLeadingZeros_0f7a4_48 1 rfl ?_
        refine r_bipush C d_J6_numberOfLeadingZeros_0f7a4_49 (v := (nI 16)) rfl ?_
        refine rn_icmp_lt C d_J6_numberOfLeadingZeros_0f7a4_51 (tgt := 61) rfl (by omega) (by omega) (fun c_51 => ?_) (fun c_51 => ?_)
        · skip
          refine r_iload_n C d_J6_numberOfLeadingZeros_0f7a4_61 1 rfl ?_
          refine r_iconst C d_J6_numberOfLeadingZeros_0f7a4_62 (v := (nI 4)) rfl ?_
          refine rn_icmp_lt C d_J6_numberOfLeadingZeros_0f7a4_63 (tgt := 73) rfl (by omega) (by omega) (fun c_63 => ?_) (fun c_63 => ?_)
          · skip
            refine r_iload_n C d_J6_numberOfLeadingZeros_0f7a4_73 0 rfl ?_
            refine r_iload_n C d_J6_numberOfLeadingZeros_0f7a4_74 1 rfl ?_
            refine r_iconst C d_J6_numberOfLeadingZeros_0f7a4_75 (v := (nI 1)) rfl ?_
            refine rn_iushr C d_J6_numberOfLeadingZeros_0f7a4_76 (by omega) (by omega) ?_
            refine rn_isub C d_J6_numberOfLeadingZeros_0f7a4_77 (by omega) ?_
            refine r_st (st' := [.int (nI (nlzN v))]) (congrArg (fun z => [Value.int (nI z)]) (by clear A; have h3 : 2 ≤ v := (by omega); clear h2 c_1; revert v; decide +kernel)) ?_
            exact r_iret C A TY d_J6_numberOfLeadingZeros_0f7a4_78 rfl (by decide) (by decide) (⟨rfl, rfl⟩)
          · skip
            refine rn_iinc C d_J6_numberOfLeadingZeros_0f7a4_66 (lv' := [(1, .int (nI (31 - 2))), (0, .int (nI v))]) 0 rfl (nI_dec (k := 2) (by omega) (by decide)) (by decide) rfl ?_
            refine r_iload_n C d_J6_numberOfLeadingZeros_0f7a4_69 1 rfl ?_
            refine r_iconst C d_J6_numberOfLeadingZeros_0f7a4_70 (v := (nI 2)) rfl ?_
            refine rn_iushr C d_J6_numberOfLeadingZeros_0f7a4_71 (by omega) (by omega) ?_
            refine r_istore_n C d_J6_numberOfLeadingZeros_0f7a4_72 (lv' := [(0, .int (nI (v / 2 ^ 2))), (1, .int (nI (31 - 2)))]) (by decide) rfl ?_
            refine r_iload_n C d_J6_numberOfLeadingZeros_0f7a4_73 1 rfl ?_
            refine r_iload_n C d_J6_numberOfLeadingZeros_0f7a4_74 0 rfl ?_
            refine r_iconst C d_J6_numberOfLeadingZeros_0f7a4_75 (v := (nI 1)) rfl ?_
            refine rn_iushr C d_J6_numberOfLeadingZeros_0f7a4_76 (by omega) (by omega) ?_
            refine rn_isub C d_J6_numberOfLeadingZeros_0f7a4_77 (by omega) ?_
            refine r_st (st' := [.int (nI (nlzN v))]) (congrArg (fun z => [Value.int (nI z)]) (by clear A; have h3 : 2 ≤ v := (by omega); clear h2 c_1; revert v; decide +kernel)) ?_
            exact r_iret C A TY d_J6_numberOfLeadingZeros_0f7a4_78 rfl (by decide) (by decide) (⟨rfl, rfl⟩)
        · skip
          refine rn_iinc C d_J6_numberOfLeadingZeros_0f7a4_54 (lv' := [(1, .int (nI (31 - 4))), (0, .int (nI v))]) 0 rfl (nI_dec (k := 4) (by omega) (by decide)) (by decide) rfl ?_
          refine r_iload_n C d_J6_numberOfLeadingZeros_0f7a4_57 1 rfl ?_
          refine r_iconst C d_J6_numberOfLeadingZeros_0f7a4_58 (v := (nI 4)) rfl ?_
          refine rn_iushr C d_J6_numberOfLeadingZeros_0f7a4_59 (by omega) (by omega) ?_
          refine r_istore_n C d_J6_numberOfLeadingZeros_0f7a4_60 (lv' := [(0, .int (nI (v / 2 ^ 4))), (1, .int (nI (31 - 4)))]) (by decide) rfl ?_
          refine r_iload_n C d_J6_numberOfLeadingZeros_0f7a4_61 0 rfl ?_
          refine r_iconst C d_J6_numberOfLeadingZeros_0f7a4_62 (v := (nI 4)) rfl ?_
          refine rn_icmp_lt C d_J6_numberOfLeadingZeros_0f7a4_63 (tgt := 73) rfl (by omega) (by omega) (fun c_63 => ?_) (fun c_63 => ?_)
          · skip
            refine r_iload_n C d_J6_numberOfLeadingZeros_0f7a4_73 1 rfl ?_
            refine r_iload_n C d_J6_numberOfLeadingZeros_0f7a4_74 0 rfl ?_
            refine r_iconst C d_J6_numberOfLeadingZeros_0f7a4_75 (v := (nI 1)) rfl ?_
            refine rn_iushr C d_J6_numberOfLeadingZeros_0f7a4_76 (by omega) (by omega) ?_
            refine rn_isub C d_J6_numberOfLeadingZeros_0f7a4_77 (by omega) ?_
            refine r_st (st' := [.int (nI (nlzN v))]) (congrArg (fun z => [Value.int (nI z)]) (by clear A; have h3 : 2 ≤ v := (by omega); clear h2 c_1; revert v; decide +kernel)) ?_
            exact r_iret C A TY d_J6_numberOfLeadingZeros_0f7a4_78 rfl (by decide) (by decide) (⟨rfl, rfl⟩)
          · skip
            refine rn_iinc C d_J6_numberOfLeadingZeros_0f7a4_66 (lv' := [(1, .int (nI (31 - 4 - 2))), (0, .int (nI (v / 2 ^ 4)))]) 1 rfl (nI_dec (k := 2) (by omega) (by decide)) (by decide) rfl ?_
            refine r_iload_n C d_J6_numberOfLeadingZeros_0f7a4_69 1 rfl ?_
            refine r_iconst C d_J6_numberOfLeadingZeros_0f7a4_70 (v := (nI 2)) rfl ?_
            refine rn_iushr C d_J6_numberOfLeadingZeros_0f7a4_71 (by omega) (by omega) ?_
            refine r_istore_n C d_J6_numberOfLeadingZeros_0f7a4_72 (lv' := [(0, .int (nI ((v / 2 ^ 4) / 2 ^ 2))), (1, .int (nI (31 - 4 - 2)))]) (by decide) rfl ?_
            refine r_iload_n C d_J6_numberOfLeadingZeros_0f7a4_73 1 rfl ?_
            refine r_iload_n C d_J6_numberOfLeadingZeros_0f7a4_74 0 rfl ?_
            refine r_iconst C d_J6_numberOfLeadingZeros_0f7a4_75 (v := (nI 1)) rfl ?_
            refine rn_iushr C d_J6_numberOfLeadingZeros_0f7a4_76 (by omega) (by omega) ?_
            refine rn_isub C d_J6_numberOfLeadingZeros_0f7a4_77 (by omega) ?_
            refine r_st (st' := [.int (nI (nlzN v))]) (congrArg (fun z => [Value.int (nI z)]) (by clear A; have h3 : 2 ≤ v := (by omega); clear h2 c_1; revert v; decide +kernel)) ?_
            exact r_iret C A TY d_J6_numberOfLeadingZeros_0f7a4_78 rfl (by decide) (by decide) (⟨rfl, rfl⟩)
      · skip
        refine rn_iinc C d_J6_numberOfLeadingZeros_0f7a4_40 (lv' := [(1, .int (nI (31 - 8))), (0, .int (nI v))]) 0 rfl (nI_dec (k := 8) (by omega) (by decide)) (by decide) rfl ?_
        refine r_iload_n C d_J6_numberOfLeadingZeros_0f7a4_43 1 rfl ?_
        refine r_bipush C d_J6_numberOfLeadingZeros_0f7a4_44 (v := (nI 8)) rfl ?_
        refine rn_iushr C d_J6_numberOfLeadingZeros_0f7a4_46 (by omega) (by omega) ?_
        refine r_istore_n C d_J6_numberOfLeadingZeros_0f7a4_47 (lv' := [(0, .int (nI (v / 2 ^ 8))), (1, .int (nI (31 - 8)))]) (by decide) rfl ?_
        refine r_iload_n C d_J6_numberOfLeadingZeros_0f7a4_48 0 rfl ?_
        refine r_bipush C d_J6_numberOfLeadingZeros_0f7a4_49 (v := (nI 16)) rfl ?_
        refine rn_icmp_lt C d_J6_numberOfLeadingZeros_0f7a4_51 (tgt := 61) rfl (by omega) (by omega) (fun c_51 => ?_) (fun c_51 => ?_)
        · skip
          refine r_iload_n C d_J6_numberOfLeadingZeros_0f7a4_61 0 rfl ?_
          refine r_iconst C d_J6_numberOfLeadingZeros_0f7a4_62 (v := (nI 4)) rfl ?_
          refine rn_icmp_lt C d_J6_numberOfLeadingZeros_0f7a4_63 (tgt := 73) rfl (by omega) (by omega) (fun c_63 => ?_) (fun c_63 => ?_)
          · skip
            refine r_iload_n C d_J6_numberOfLeadingZeros_0f7a4_73 1 rfl ?_
            refine r_iload_n C d_J6_numberOfLeadingZeros_0f7a4_74 0 rfl ?_
            refine r_iconst C d_J6_numberOfLeadingZeros_0f7a4_75 (v := (nI 1)) rfl ?_
            refine rn_iushr C d_J6_numberOfLeadingZeros_0f7a4_76 (by omega) (by omega) ?_
            refine rn_isub C d_J6_numberOfLeadingZeros_0f7a4_77 (by omega) ?_
            refine r_st (st' := [.int (nI (nlzN v))]) (congrArg (fun z => [Value.int (nI z)]) (by clear A; have h3 : 2 ≤ v := (by omega); clear h2 c_1; revert v; decide +kernel)) ?_
            exact r_iret C A TY d_J6_numberOfLeadingZeros_0f7a4_78 rfl (by decide) (by decide) (⟨rfl, rfl⟩)
          · skip
            refine rn_iinc C d_J6_numberOfLeadingZeros_0f7a4_66 (lv' := [(1, .int (nI (31 - 8 - 2))), (0, .int (nI (v / 2 ^ 8)))]) 1 rfl (nI_dec (k := 2) (by omega) (by decide)) (by decide) rfl ?_
            refine r_iload_n C d_J6_numberOfLeadingZeros_0f7a4_69 1 rfl ?_
            refine r_iconst C d_J6_numberOfLeadingZeros_0f7a4_70 (v := (nI 2)) rfl ?_
            refine rn_iushr C d_J6_numberOfLeadingZeros_0f7a4_71 (by omega) (by omega) ?_
            refine r_istore_n C d_J6_numberOfLeadingZeros_0f7a4_72 (lv' := [(0, .int (nI ((v / 2 ^ 8) / 2 ^ 2))), (1, .int (nI (31 - 8 - 2)))]) (by decide) rfl ?_
            refine r_iload_n C d_J6_numberOfLeadingZeros_0f7a4_73 1 rfl ?_
            refine r_iload_n C d_J6_numberOfLeadingZeros_0f7a4_74 0 rfl ?_
            refine r_iconst C d_J6_numberOfLeadingZeros_0f7a4_75 (v := (nI 1)) rfl ?_
            refine rn_iushr C d_J6_numberOfLeadingZeros_0f7a4_76 (by omega) (by omega) ?_
            refine rn_isub C d_J6_numberOfLeadingZeros_0f7a4_77 (by omega) ?_
            refine r_st (st' := [.int (nI (nlzN v))]) (congrArg (fun z => [Value.int (nI z)]) (by clear A; have h3 : 2 ≤ v := (by omega); clear h2 c_1; revert v; decide +kernel)) ?_
            exact r_iret C A TY d_J6_numberOfLeadingZeros_0f7a4_78 rfl (by decide) (by decide) (⟨rfl, rfl⟩)
        · skip
          refine rn_iinc C d_J6_numberOfLeadingZeros_0f7a4_54 (lv' := [(1, .int (nI (31 - 8 - 4))), (0, .int (nI (v / 2 ^ 8)))]) 1 rfl (nI_dec (k := 4) (by omega) (by decide)) (by decide) rfl ?_
          refine r_iload_n C d_J6_numberOfLeadingZeros_0f7a4_57 1 rfl ?_
          refine r_iconst C d_J6_numberOfLeadingZeros_0f7a4_58 (v := (nI 4)) rfl ?_
          refine rn_iushr C d_J6_numberOfLeadingZeros_0f7a4_59 (by omega) (by omega) ?_
          refine r_istore_n C d_J6_numberOfLeadingZeros_0f7a4_60 (lv' := [(0, .int (nI ((v / 2 ^ 8) / 2 ^ 4))), (1, .int (nI (31 - 8 - 4)))]) (by decide) rfl ?_
          refine r_iload_n C d_J6_numberOfLeadingZeros_0f7a4_61 0 rfl ?_
          refine r_iconst C d_J6_numberOfLeadingZeros_0f7a4_62 (v := (nI 4)) rfl ?_
          refine rn_icmp_lt C d_J6_numberOfLeadingZeros_0f7a4_63 (tgt := 73) rfl (by omega) (by omega) (fun c_63 => ?_) (fun c_63 => ?_)
          · skip
            refine r_iload_n C d_J6_numberOfLeadingZeros_0f7a4_73 1 rfl ?_
            refine r_iload_n C d_J6_numberOfLeadingZeros_0f7a4_74 0 rfl ?_
            refine r_iconst C d_J6_numberOfLeadingZeros_0f7a4_75 (v := (nI 1)) rfl ?_
            refine rn_iushr C d_J6_numberOfLeadingZeros_0f7a4_76 (by omega) (by omega) ?_
            refine rn_isub C d_J6_numberOfLeadingZeros_0f7a4_77 (by omega) ?_
            refine r_st (st' := [.int (nI (nlzN v))]) (congrArg (fun z => [Value.int (nI z)]) (by clear A; have h3 : 2 ≤ v := (by omega); clear h2 c_1; revert v; decide +kernel)) ?_
            exact r_iret C A TY d_J6_numberOfLeadingZeros_0f7a4_78 rfl (by decide) (by decide) (⟨rfl, rfl⟩)
          · skip
            refine rn_iinc C d_J6_numberOfLeadingZeros_0f7a4_66 (lv' := [(1, .int (nI (31 - 8 - 4 - 2))), (0, .int (nI ((v / 2 ^ 8) / 2 ^ 4)))]) 1 rfl (nI_dec (k := 2) (by omega) (by decide)) (by decide) rfl ?_
            refine r_iload_n C d_J6_numberOfLeadingZeros_0f7a4_69 1 rfl ?_
            refine r_iconst C d_J6_numberOfLeadingZeros_0f7a4_70 (v := (nI 2)) rfl ?_
            refine rn_iushr C d_J6_numberOfLeadingZeros_0f7a4_71 (by omega) (by omega) ?_
            refine r_istore_n C d_J6_numberOfLeadingZeros_0f7a4_72 (lv' := [(0, .int (nI (((v / 2 ^ 8) / 2 ^ 4) / 2 ^ 2))), (1, .int (nI (31 - 8 - 4 - 2)))]) (by decide) rfl ?_
            refine r_iload_n C d_J6_numberOfLeadingZeros_0f7a4_73 1 rfl ?_
            refine r_iload_n C d_J6_numberOfLeadingZeros_0f7a4_74 0 rfl ?_
            refine r_iconst C d_J6_numberOfLeadingZeros_0f7a4_75 (v := (nI 1)) rfl ?_
            refine rn_iushr C d_J6_numberOfLeadingZeros_0f7a4_76 (by omega) (by omega) ?_
            refine rn_isub C d_J6_numberOfLeadingZeros_0f7a4_77 (by omega) ?_
            refine r_st (st' := [.int (nI (nlzN v))]) (congrArg (fun z => [Value.int (nI z)]) (by clear A; have h3 : 2 ≤ v := (by omega); clear h2 c_1; revert v; decide +kernel)) ?_
            exact r_iret C A TY d_J6_numberOfLeadingZeros_0f7a4_78 rfl (by decide) (by decide) (⟨rfl, rfl⟩)
    · skip
      exfalso; omega
  · skip
    refine r_iload_n C d_J6_numberOfLeadingZeros_0f7a4_4 0 rfl ?_
    refine rn_if_ne C d_J6_numberOfLeadingZeros_0f7a4_5 (tgt := 13) rfl (by omega) (fun c_5 => ?_) (fun c_5 => ?_)
    · skip
      exfalso; omega
    · skip
      refine r_bipush C d_J6_numberOfLeadingZeros_0f7a4_8 (v := (nI 32)) rfl ?_
      refine r_goto C d_J6_numberOfLeadingZeros_0f7a4_10 (tgt := 14) rfl ?_
      refine r_st (st' := [.int (nI (nlzN v))]) (congrArg (fun z => [Value.int (nI z)]) (by clear A; revert v; decide +kernel)) ?_
      exact r_iret C A TY d_J6_numberOfLeadingZeros_0f7a4_14 rfl (by decide) (by decide) (⟨rfl, rfl⟩)
def dl_J6_highestOneBit_0f7a4 : List (Nat × Instr × Nat) := [(0, .iload_n 0, 1), (1, .ldc 127, 2), (3, .iload_n 0, 1), (4, .invokestatic 51, 3), (7, .iushr, 1), (8, .iand, 1), (9, .ireturn, 1)]
theorem dc_J6_highestOneBit_0f7a4 : dnL cJ6_highestOneBit_0f7a4 dl_J6_highestOneBit_0f7a4 = true := by decide +kernel
theorem d_J6_highestOneBit_0f7a4_0 : dn cJ6_highestOneBit_0f7a4 0 (.iload_n 0) 1 1 := dnAt dc_J6_highestOneBit_0f7a4 0 rfl rfl
theorem d_J6_highestOneBit_0f7a4_1 : dn cJ6_highestOneBit_0f7a4 1 (.ldc 127) 2 3 := dnAt dc_J6_highestOneBit_0f7a4 1 rfl rfl
theorem d_J6_highestOneBit_0f7a4_3 : dn cJ6_highestOneBit_0f7a4 3 (.iload_n 0) 1 4 := dnAt dc_J6_highestOneBit_0f7a4 2 rfl rfl
theorem d_J6_highestOneBit_0f7a4_4 : dn cJ6_highestOneBit_0f7a4 4 (.invokestatic 51) 3 7 := dnAt dc_J6_highestOneBit_0f7a4 3 rfl rfl
theorem d_J6_highestOneBit_0f7a4_7 : dn cJ6_highestOneBit_0f7a4 7 (.iushr) 1 8 := dnAt dc_J6_highestOneBit_0f7a4 4 rfl rfl
theorem d_J6_highestOneBit_0f7a4_8 : dn cJ6_highestOneBit_0f7a4 8 (.iand) 1 9 := dnAt dc_J6_highestOneBit_0f7a4 5 rfl rfl
theorem d_J6_highestOneBit_0f7a4_9 : dn cJ6_highestOneBit_0f7a4 9 (.ireturn) 1 10 := dnAt dc_J6_highestOneBit_0f7a4 6 rfl rfl
set_option maxHeartbeats 4000000 in
set_option maxRecDepth 100000 in
theorem s_hob (v : Nat) (hv : v < 512) (h2 : v % 2 = 0) : sC yJ6_highestOneBit_0f7a4 cJ6_highestOneBit_0f7a4 1 (Option.some Jvm.ClassFile.FieldType.int) { frames := 1, cells := 0, slots := 0, locals := 21 } [.int (nI v)] (some (.int (nI (hobN v)))) := by
  refine sC.of (by decide) (Nat.le_of_ble_eq_true rfl) ?_
  intro G x h C A TY
  show VV G x 0 0 h 0 [(0, .int (nI v))] []
  refine r_iload_n C d_J6_highestOneBit_0f7a4_0 0 rfl ?_
  refine r_ldc C d_J6_highestOneBit_0f7a4_1 (v := (-2147483648 : Int32)) tw_576 ?_
  refine r_iload_n C d_J6_highestOneBit_0f7a4_3 0 rfl ?_
  refine r_callS C d_J6_highestOneBit_0f7a4_4 ok_RJ6_51 (fun l _ => s_nlz v hv h2 l G h) (rest := [.int ((-2147483648 : Int32)), .int (nI v)]) rfl rfl (Nat.le_of_ble_eq_true rfl) ⟨⟨by decide, by decide⟩, by decide, by decide⟩ (fun v9 h9 e9 => ?_)
  obtain ⟨rfl, e9⟩ := e9
  refine r_eqh e9 ?_
  show VV G x 0 0 h 7 [(0, .int (nI v))] [.int (nI (nlzN v)), .int ((-2147483648 : Int32)), .int (nI v)]
  refine r_iushr C d_J6_highestOneBit_0f7a4_7 ?_
  refine r_iand C d_J6_highestOneBit_0f7a4_8 ?_
  refine r_st (st' := [.int (nI (hobN v))]) (congrArg (fun z => [Value.int z]) (by clear A; revert v; decide +kernel)) ?_
  exact r_iret C A TY d_J6_highestOneBit_0f7a4_9 rfl (by decide) (by decide) (⟨rfl, rfl⟩)
def dl_J6_numberOfTrailingZeros_0f7a4 : List (Nat × Instr × Nat) := [(0, .iload_n 0, 1), (1, .iconst (-1), 1), (2, .ixor, 1), (3, .iload_n 0, 1), (4, .iconst 1, 1), (5, .isub, 1), (6, .iand, 1), (7, .istore_n 0, 1), (8, .iload_n 0, 1), (9, .ifCond .gt 8, 3), (12, .iload_n 0, 1), (13, .bipush 32, 2), (15, .iand, 1), (16, .ireturn, 1), (17, .iconst 1, 1), (18, .istore_n 1, 1), (19, .iload_n 0, 1), (20, .ldc_w 264, 3), (23, .if_icmp .le 11, 3), (26, .iinc 1 16, 3), (29, .iload_n 0, 1), (30, .bipush 16, 2), (32, .iushr, 1), (33, .istore_n 0, 1), (34, .iload_n 0, 1), (35, .sipush 256, 3), (38, .if_icmp .le 11, 3), (41, .iinc 1 8, 3), (44, .iload_n 0, 1), (45, .bipush 8, 2), (47, .iushr, 1), (48, .istore_n 0, 1), (49, .iload_n 0, 1), (50, .bipush 16, 2), (52, .if_icmp .le 10, 3), (55, .iinc 1 4, 3), (58, .iload_n 0, 1), (59, .iconst 4, 1), (60, .iushr, 1), (61, .istore_n 0, 1), (62, .iload_n 0, 1), (63, .iconst 4, 1), (64, .if_icmp .le 10, 3), (67, .iinc 1 2, 3), (70, .iload_n 0, 1), (71, .iconst 2, 1), (72, .iushr, 1), (73, .istore_n 0, 1), (74, .iload_n 1, 1), (75, .iload_n 0, 1), (76, .iconst 1, 1), (77, .iushr, 1), (78, .iadd, 1), (79, .ireturn, 1)]
theorem dc_J6_numberOfTrailingZeros_0f7a4 : dnL cJ6_numberOfTrailingZeros_0f7a4 dl_J6_numberOfTrailingZeros_0f7a4 = true := by decide +kernel
theorem d_J6_numberOfTrailingZeros_0f7a4_0 : dn cJ6_numberOfTrailingZeros_0f7a4 0 (.iload_n 0) 1 1 := dnAt dc_J6_numberOfTrailingZeros_0f7a4 0 rfl rfl
theorem d_J6_numberOfTrailingZeros_0f7a4_1 : dn cJ6_numberOfTrailingZeros_0f7a4 1 (.iconst (-1)) 1 2 := dnAt dc_J6_numberOfTrailingZeros_0f7a4 1 rfl rfl
theorem d_J6_numberOfTrailingZeros_0f7a4_2 : dn cJ6_numberOfTrailingZeros_0f7a4 2 (.ixor) 1 3 := dnAt dc_J6_numberOfTrailingZeros_0f7a4 2 rfl rfl
theorem d_J6_numberOfTrailingZeros_0f7a4_3 : dn cJ6_numberOfTrailingZeros_0f7a4 3 (.iload_n 0) 1 4 := dnAt dc_J6_numberOfTrailingZeros_0f7a4 3 rfl rfl
theorem d_J6_numberOfTrailingZeros_0f7a4_4 : dn cJ6_numberOfTrailingZeros_0f7a4 4 (.iconst 1) 1 5 := dnAt dc_J6_numberOfTrailingZeros_0f7a4 4 rfl rfl
theorem d_J6_numberOfTrailingZeros_0f7a4_5 : dn cJ6_numberOfTrailingZeros_0f7a4 5 (.isub) 1 6 := dnAt dc_J6_numberOfTrailingZeros_0f7a4 5 rfl rfl
theorem d_J6_numberOfTrailingZeros_0f7a4_6 : dn cJ6_numberOfTrailingZeros_0f7a4 6 (.iand) 1 7 := dnAt dc_J6_numberOfTrailingZeros_0f7a4 6 rfl rfl
theorem d_J6_numberOfTrailingZeros_0f7a4_7 : dn cJ6_numberOfTrailingZeros_0f7a4 7 (.istore_n 0) 1 8 := dnAt dc_J6_numberOfTrailingZeros_0f7a4 7 rfl rfl
theorem d_J6_numberOfTrailingZeros_0f7a4_8 : dn cJ6_numberOfTrailingZeros_0f7a4 8 (.iload_n 0) 1 9 := dnAt dc_J6_numberOfTrailingZeros_0f7a4 8 rfl rfl
theorem d_J6_numberOfTrailingZeros_0f7a4_9 : dn cJ6_numberOfTrailingZeros_0f7a4 9 (.ifCond .gt 8) 3 12 := dnAt dc_J6_numberOfTrailingZeros_0f7a4 9 rfl rfl
theorem d_J6_numberOfTrailingZeros_0f7a4_17 : dn cJ6_numberOfTrailingZeros_0f7a4 17 (.iconst 1) 1 18 := dnAt dc_J6_numberOfTrailingZeros_0f7a4 14 rfl rfl
theorem d_J6_numberOfTrailingZeros_0f7a4_18 : dn cJ6_numberOfTrailingZeros_0f7a4 18 (.istore_n 1) 1 19 := dnAt dc_J6_numberOfTrailingZeros_0f7a4 15 rfl rfl
theorem d_J6_numberOfTrailingZeros_0f7a4_19 : dn cJ6_numberOfTrailingZeros_0f7a4 19 (.iload_n 0) 1 20 := dnAt dc_J6_numberOfTrailingZeros_0f7a4 16 rfl rfl
theorem d_J6_numberOfTrailingZeros_0f7a4_20 : dn cJ6_numberOfTrailingZeros_0f7a4 20 (.ldc_w 264) 3 23 := dnAt dc_J6_numberOfTrailingZeros_0f7a4 17 rfl rfl
theorem d_J6_numberOfTrailingZeros_0f7a4_23 : dn cJ6_numberOfTrailingZeros_0f7a4 23 (.if_icmp .le 11) 3 26 := dnAt dc_J6_numberOfTrailingZeros_0f7a4 18 rfl rfl
theorem d_J6_numberOfTrailingZeros_0f7a4_34 : dn cJ6_numberOfTrailingZeros_0f7a4 34 (.iload_n 0) 1 35 := dnAt dc_J6_numberOfTrailingZeros_0f7a4 24 rfl rfl
theorem d_J6_numberOfTrailingZeros_0f7a4_35 : dn cJ6_numberOfTrailingZeros_0f7a4 35 (.sipush 256) 3 38 := dnAt dc_J6_numberOfTrailingZeros_0f7a4 25 rfl rfl
theorem d_J6_numberOfTrailingZeros_0f7a4_38 : dn cJ6_numberOfTrailingZeros_0f7a4 38 (.if_icmp .le 11) 3 41 := dnAt dc_J6_numberOfTrailingZeros_0f7a4 26 rfl rfl
theorem d_J6_numberOfTrailingZeros_0f7a4_49 : dn cJ6_numberOfTrailingZeros_0f7a4 49 (.iload_n 0) 1 50 := dnAt dc_J6_numberOfTrailingZeros_0f7a4 32 rfl rfl
theorem d_J6_numberOfTrailingZeros_0f7a4_50 : dn cJ6_numberOfTrailingZeros_0f7a4 50 (.bipush 16) 2 52 := dnAt dc_J6_numberOfTrailingZeros_0f7a4 33 rfl rfl
theorem d_J6_numberOfTrailingZeros_0f7a4_52 : dn cJ6_numberOfTrailingZeros_0f7a4 52 (.if_icmp .le 10) 3 55 := dnAt dc_J6_numberOfTrailingZeros_0f7a4 34 rfl rfl
theorem d_J6_numberOfTrailingZeros_0f7a4_55 : dn cJ6_numberOfTrailingZeros_0f7a4 55 (.iinc 1 4) 3 58 := dnAt dc_J6_numberOfTrailingZeros_0f7a4 35 rfl rfl
theorem d_J6_numberOfTrailingZeros_0f7a4_58 : dn cJ6_numberOfTrailingZeros_0f7a4 58 (.iload_n 0) 1 59 := dnAt dc_J6_numberOfTrailingZeros_0f7a4 36 rfl rfl
theorem d_J6_numberOfTrailingZeros_0f7a4_59 : dn cJ6_numberOfTrailingZeros_0f7a4 59 (.iconst 4) 1 60 := dnAt dc_J6_numberOfTrailingZeros_0f7a4 37 rfl rfl
theorem d_J6_numberOfTrailingZeros_0f7a4_60 : dn cJ6_numberOfTrailingZeros_0f7a4 60 (.iushr) 1 61 := dnAt dc_J6_numberOfTrailingZeros_0f7a4 38 rfl rfl
theorem d_J6_numberOfTrailingZeros_0f7a4_61 : dn cJ6_numberOfTrailingZeros_0f7a4 61 (.istore_n 0) 1 62 := dnAt dc_J6_numberOfTrailingZeros_0f7a4 39 rfl rfl
theorem d_J6_numberOfTrailingZeros_0f7a4_62 : dn cJ6_numberOfTrailingZeros_0f7a4 62 (.iload_n 0) 1 63 := dnAt dc_J6_numberOfTrailingZeros_0f7a4 40 rfl rfl
theorem d_J6_numberOfTrailingZeros_0f7a4_63 : dn cJ6_numberOfTrailingZeros_0f7a4 63 (.iconst 4) 1 64 := dnAt dc_J6_numberOfTrailingZeros_0f7a4 41 rfl rfl
theorem d_J6_numberOfTrailingZeros_0f7a4_64 : dn cJ6_numberOfTrailingZeros_0f7a4 64 (.if_icmp .le 10) 3 67 := dnAt dc_J6_numberOfTrailingZeros_0f7a4 42 rfl rfl
theorem d_J6_numberOfTrailingZeros_0f7a4_67 : dn cJ6_numberOfTrailingZeros_0f7a4 67 (.iinc 1 2) 3 70 := dnAt dc_J6_numberOfTrailingZeros_0f7a4 43 rfl rfl
theorem d_J6_numberOfTrailingZeros_0f7a4_70 : dn cJ6_numberOfTrailingZeros_0f7a4 70 (.iload_n 0) 1 71 := dnAt dc_J6_numberOfTrailingZeros_0f7a4 44 rfl rfl
theorem d_J6_numberOfTrailingZeros_0f7a4_71 : dn cJ6_numberOfTrailingZeros_0f7a4 71 (.iconst 2) 1 72 := dnAt dc_J6_numberOfTrailingZeros_0f7a4 45 rfl rfl
theorem d_J6_numberOfTrailingZeros_0f7a4_72 : dn cJ6_numberOfTrailingZeros_0f7a4 72 (.iushr) 1 73 := dnAt dc_J6_numberOfTrailingZeros_0f7a4 46 rfl rfl
theorem d_J6_numberOfTrailingZeros_0f7a4_73 : dn cJ6_numberOfTrailingZeros_0f7a4 73 (.istore_n 0) 1 74 := dnAt dc_J6_numberOfTrailingZeros_0f7a4 47 rfl rfl
theorem d_J6_numberOfTrailingZeros_0f7a4_74 : dn cJ6_numberOfTrailingZeros_0f7a4 74 (.iload_n 1) 1 75 := dnAt dc_J6_numberOfTrailingZeros_0f7a4 48 rfl rfl
theorem d_J6_numberOfTrailingZeros_0f7a4_75 : dn cJ6_numberOfTrailingZeros_0f7a4 75 (.iload_n 0) 1 76 := dnAt dc_J6_numberOfTrailingZeros_0f7a4 49 rfl rfl
theorem d_J6_numberOfTrailingZeros_0f7a4_76 : dn cJ6_numberOfTrailingZeros_0f7a4 76 (.iconst 1) 1 77 := dnAt dc_J6_numberOfTrailingZeros_0f7a4 50 rfl rfl
theorem d_J6_numberOfTrailingZeros_0f7a4_77 : dn cJ6_numberOfTrailingZeros_0f7a4 77 (.iushr) 1 78 := dnAt dc_J6_numberOfTrailingZeros_0f7a4 51 rfl rfl
theorem d_J6_numberOfTrailingZeros_0f7a4_78 : dn cJ6_numberOfTrailingZeros_0f7a4 78 (.iadd) 1 79 := dnAt dc_J6_numberOfTrailingZeros_0f7a4 52 rfl rfl
theorem d_J6_numberOfTrailingZeros_0f7a4_79 : dn cJ6_numberOfTrailingZeros_0f7a4 79 (.ireturn) 1 80 := dnAt dc_J6_numberOfTrailingZeros_0f7a4 53 rfl rfl
set_option maxHeartbeats 4000000 in
set_option maxRecDepth 100000 in
theorem s_ntz (v : Nat) (hv : v < 9) (h2 : 0 < v) : sC yJ6_numberOfTrailingZeros_0f7a4 cJ6_numberOfTrailingZeros_0f7a4 2 (Option.some Jvm.ClassFile.FieldType.int) { frames := 0, cells := 0, slots := 0, locals := 0 } [.int (nI (2 ^ v))] (some (.int (nI v))) := by
  refine sC.of (by decide) (Nat.le_of_ble_eq_true rfl) ?_
  intro G x h C A TY
  show VV G x 0 0 h 0 [(0, .int (nI (2 ^ v)))] []
  have hq : ∀ w, w < 9 → 0 < w → 1 ≤ 2 ^ w - 1 ∧ 2 ^ w - 1 < 256 := by decide
  replace hq := hq v hv h2
  refine r_iload_n C d_J6_numberOfTrailingZeros_0f7a4_0 0 rfl ?_
  refine r_iconst C d_J6_numberOfTrailingZeros_0f7a4_1 (v := ((-1))) rfl ?_
  refine r_ixor C d_J6_numberOfTrailingZeros_0f7a4_2 ?_
  refine r_iload_n C d_J6_numberOfTrailingZeros_0f7a4_3 0 rfl ?_
  refine r_iconst C d_J6_numberOfTrailingZeros_0f7a4_4 (v := (nI 1)) rfl ?_
  refine r_isub C d_J6_numberOfTrailingZeros_0f7a4_5 ?_
  refine r_iand C d_J6_numberOfTrailingZeros_0f7a4_6 ?_
  refine r_st (st' := [.int (nI (2 ^ v - 1))]) (congrArg (fun z => [Value.int z]) (by clear A hq; revert v; decide +kernel)) ?_
  refine r_istore_n C d_J6_numberOfTrailingZeros_0f7a4_7 (lv' := [(0, .int (nI (2 ^ v - 1)))]) (by decide) rfl ?_
  refine r_iload_n C d_J6_numberOfTrailingZeros_0f7a4_8 0 rfl ?_
  refine rn_if_gt C d_J6_numberOfTrailingZeros_0f7a4_9 (tgt := 17) rfl (by omega) (fun c_9 => ?_) (fun c_9 => ?_)
  · skip
    refine r_iconst C d_J6_numberOfTrailingZeros_0f7a4_17 (v := (nI 1)) rfl ?_
    refine r_istore_n C d_J6_numberOfTrailingZeros_0f7a4_18 (lv' := [(1, .int (nI 1)), (0, .int (nI (2 ^ v - 1)))]) (by decide) rfl ?_
    refine r_iload_n C d_J6_numberOfTrailingZeros_0f7a4_19 1 rfl ?_
    refine r_ldcw C d_J6_numberOfTrailingZeros_0f7a4_20 (v := nI 65536) tw_580 ?_
    refine rn_icmp_le C d_J6_numberOfTrailingZeros_0f7a4_23 (tgt := 34) rfl (by omega) (by omega) (fun c_23 => ?_) (fun c_23 => ?_)
    · skip
      refine r_iload_n C d_J6_numberOfTrailingZeros_0f7a4_34 1 rfl ?_
      refine r_sipush C d_J6_numberOfTrailingZeros_0f7a4_35 (v := (nI 256)) rfl ?_
      refine rn_icmp_le C d_J6_numberOfTrailingZeros_0f7a4_38 (tgt := 49) rfl (by omega) (by omega) (fun c_38 => ?_) (fun c_38 => ?_)
      · skip
        refine r_iload_n C d_J6_numberOfTrailingZeros_0f7a4_49 1 rfl ?_
        refine r_bipush C d_J6_numberOfTrailingZeros_0f7a4_50 (v := (nI 16)) rfl ?_
        refine rn_icmp_le C d_J6_numberOfTrailingZeros_0f7a4_52 (tgt := 62) rfl (by omega) (by omega) (fun c_52 => ?_) (fun c_52 => ?_)
        · skip
          refine r_iload_n C d_J6_numberOfTrailingZeros_0f7a4_62 1 rfl ?_
          refine r_iconst C d_J6_numberOfTrailingZeros_0f7a4_63 (v := (nI 4)) rfl ?_
          refine rn_icmp_le C d_J6_numberOfTrailingZeros_0f7a4_64 (tgt := 74) rfl (by omega) (by omega) (fun c_64 => ?_) (fun c_64 => ?_)
          · skip
            refine r_iload_n C d_J6_numberOfTrailingZeros_0f7a4_74 0 rfl ?_
            refine r_iload_n C d_J6_numberOfTrailingZeros_0f7a4_75 1 rfl ?_
            refine r_iconst C d_J6_numberOfTrailingZeros_0f7a4_76 (v := (nI 1)) rfl ?_
            refine rn_iushr C d_J6_numberOfTrailingZeros_0f7a4_77 (by omega) (by omega) ?_
            refine rn_iadd C d_J6_numberOfTrailingZeros_0f7a4_78 ?_
            refine r_st (st' := [.int (nI v)]) (congrArg (fun z => [Value.int (nI z)]) (by clear A hq c_9 c_23 c_38; revert v; decide +kernel)) ?_
            exact r_iret C A TY d_J6_numberOfTrailingZeros_0f7a4_79 rfl (by decide) (by decide) (⟨rfl, rfl⟩)
          · skip
            refine rn_iinc C d_J6_numberOfTrailingZeros_0f7a4_67 (lv' := [(1, .int (nI (1 + 2))), (0, .int (nI (2 ^ v - 1)))]) 0 rfl (nI_inc _ rfl) (by decide) rfl ?_
            refine r_iload_n C d_J6_numberOfTrailingZeros_0f7a4_70 1 rfl ?_
            refine r_iconst C d_J6_numberOfTrailingZeros_0f7a4_71 (v := (nI 2)) rfl ?_
            refine rn_iushr C d_J6_numberOfTrailingZeros_0f7a4_72 (by omega) (by omega) ?_
            refine r_istore_n C d_J6_numberOfTrailingZeros_0f7a4_73 (lv' := [(0, .int (nI ((2 ^ v - 1) / 2 ^ 2))), (1, .int (nI (1 + 2)))]) (by decide) rfl ?_
            refine r_iload_n C d_J6_numberOfTrailingZeros_0f7a4_74 1 rfl ?_
            refine r_iload_n C d_J6_numberOfTrailingZeros_0f7a4_75 0 rfl ?_
            refine r_iconst C d_J6_numberOfTrailingZeros_0f7a4_76 (v := (nI 1)) rfl ?_
            refine rn_iushr C d_J6_numberOfTrailingZeros_0f7a4_77 (by omega) (by omega) ?_
            refine rn_iadd C d_J6_numberOfTrailingZeros_0f7a4_78 ?_
            refine r_st (st' := [.int (nI v)]) (congrArg (fun z => [Value.int (nI z)]) (by clear A hq c_9 c_23 c_38; revert v; decide +kernel)) ?_
            exact r_iret C A TY d_J6_numberOfTrailingZeros_0f7a4_79 rfl (by decide) (by decide) (⟨rfl, rfl⟩)
        · skip
          refine rn_iinc C d_J6_numberOfTrailingZeros_0f7a4_55 (lv' := [(1, .int (nI (1 + 4))), (0, .int (nI (2 ^ v - 1)))]) 0 rfl (nI_inc _ rfl) (by decide) rfl ?_
          refine r_iload_n C d_J6_numberOfTrailingZeros_0f7a4_58 1 rfl ?_
          refine r_iconst C d_J6_numberOfTrailingZeros_0f7a4_59 (v := (nI 4)) rfl ?_
          refine rn_iushr C d_J6_numberOfTrailingZeros_0f7a4_60 (by omega) (by omega) ?_
          refine r_istore_n C d_J6_numberOfTrailingZeros_0f7a4_61 (lv' := [(0, .int (nI ((2 ^ v - 1) / 2 ^ 4))), (1, .int (nI (1 + 4)))]) (by decide) rfl ?_
          refine r_iload_n C d_J6_numberOfTrailingZeros_0f7a4_62 0 rfl ?_
          refine r_iconst C d_J6_numberOfTrailingZeros_0f7a4_63 (v := (nI 4)) rfl ?_
          refine rn_icmp_le C d_J6_numberOfTrailingZeros_0f7a4_64 (tgt := 74) rfl (by omega) (by omega) (fun c_64 => ?_) (fun c_64 => ?_)
          · skip
            refine r_iload_n C d_J6_numberOfTrailingZeros_0f7a4_74 1 rfl ?_
            refine r_iload_n C d_J6_numberOfTrailingZeros_0f7a4_75 0 rfl ?_
            refine r_iconst C d_J6_numberOfTrailingZeros_0f7a4_76 (v := (nI 1)) rfl ?_
            refine rn_iushr C d_J6_numberOfTrailingZeros_0f7a4_77 (by omega) (by omega) ?_
            refine rn_iadd C d_J6_numberOfTrailingZeros_0f7a4_78 ?_
            refine r_st (st' := [.int (nI v)]) (congrArg (fun z => [Value.int (nI z)]) (by clear A hq c_9 c_23 c_38; revert v; decide +kernel)) ?_
            exact r_iret C A TY d_J6_numberOfTrailingZeros_0f7a4_79 rfl (by decide) (by decide) (⟨rfl, rfl⟩)
          · skip
            refine rn_iinc C d_J6_numberOfTrailingZeros_0f7a4_67 (lv' := [(1, .int (nI (1 + 4 + 2))), (0, .int (nI ((2 ^ v - 1) / 2 ^ 4)))]) 1 rfl (nI_inc _ rfl) (by decide) rfl ?_
            refine r_iload_n C d_J6_numberOfTrailingZeros_0f7a4_70 1 rfl ?_
            refine r_iconst C d_J6_numberOfTrailingZeros_0f7a4_71 (v := (nI 2)) rfl ?_
            refine rn_iushr C d_J6_numberOfTrailingZeros_0f7a4_72 (by omega) (by omega) ?_
            refine r_istore_n C d_J6_numberOfTrailingZeros_0f7a4_73 (lv' := [(0, .int (nI (((2 ^ v - 1) / 2 ^ 4) / 2 ^ 2))), (1, .int (nI (1 + 4 + 2)))]) (by decide) rfl ?_
            refine r_iload_n C d_J6_numberOfTrailingZeros_0f7a4_74 1 rfl ?_
            refine r_iload_n C d_J6_numberOfTrailingZeros_0f7a4_75 0 rfl ?_
            refine r_iconst C d_J6_numberOfTrailingZeros_0f7a4_76 (v := (nI 1)) rfl ?_
            refine rn_iushr C d_J6_numberOfTrailingZeros_0f7a4_77 (by omega) (by omega) ?_
            refine rn_iadd C d_J6_numberOfTrailingZeros_0f7a4_78 ?_
            refine r_st (st' := [.int (nI v)]) (congrArg (fun z => [Value.int (nI z)]) (by clear A hq c_9 c_23 c_38; revert v; decide +kernel)) ?_
            exact r_iret C A TY d_J6_numberOfTrailingZeros_0f7a4_79 rfl (by decide) (by decide) (⟨rfl, rfl⟩)
      · skip
        exfalso; omega
    · skip
      exfalso; omega
  · skip
    exfalso; omega
