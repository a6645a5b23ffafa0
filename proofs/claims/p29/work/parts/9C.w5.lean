theorem tw_15 : (Jvm.Cond.classLink "CorpuslineLaw" (11 : Nat) "Corpusline") ∈ TB := tb_of 15 (by decide +kernel) rfl
theorem tw_16 : (Jvm.Cond.instantiable "Corpusline" (9 : Nat)) ∈ TB := tb_of 16 (by decide +kernel) rfl
theorem tw_17 : (Jvm.Cond.methodLink "CorpuslineLaw" (141 : Nat) ({ cls := "Corpusline", name := "<init>", desc := "()V" } : Jvm.MethodName)) ∈ TB := tb_of 17 (by decide +kernel) rfl
theorem tw_18 : (Jvm.Cond.instanceMethod ({ cls := "Corpusline", name := "<init>", desc := "()V" } : Jvm.MethodName)) ∈ TB := tb_of 18 (by decide +kernel) rfl
theorem tw_19 : (Jvm.Cond.code ({ cls := "Corpusline", name := "<init>", desc := "()V" } : Jvm.MethodName) prog_1_method_1_code (2 : Nat) (Option.none : Option Jvm.ClassFile.FieldType)) ∈ TB := tb_of 19 (by decide +kernel) rfl
theorem tw_219 : (Jvm.Cond.methodLink "CorpuslineLaw" (142 : Nat) ({ cls := "CorpuslineLaw", name := "draw", desc := "([II)I" } : Jvm.MethodName)) ∈ TB := tb_of 219 (by decide +kernel) rfl
theorem tw_220 : (Jvm.Cond.static ({ cls := "CorpuslineLaw", name := "draw", desc := "([II)I" } : Jvm.MethodName)) ∈ TB := tb_of 220 (by decide +kernel) rfl
theorem tw_221 : (Jvm.Cond.code ({ cls := "CorpuslineLaw", name := "draw", desc := "([II)I" } : Jvm.MethodName) method_2_code (2 : Nat) (Option.some Jvm.ClassFile.FieldType.int)) ∈ TB := tb_of 221 (by decide +kernel) rfl
theorem tw_222 : (Jvm.Cond.constant "CorpuslineLaw" (7 : Nat) (2147483647 : Int32)) ∈ TB := tb_of 222 (by decide +kernel) rfl
theorem tw_223 : (Jvm.Cond.constant "CorpuslineLaw" (8 : Nat) (104729 : Int32)) ∈ TB := tb_of 223 (by decide +kernel) rfl
theorem tw_224 : (Jvm.Cond.constant "CorpuslineLaw" (9 : Nat) (65521 : Int32)) ∈ TB := tb_of 224 (by decide +kernel) rfl
theorem tw_225 : (Jvm.Cond.methodLink "CorpuslineLaw" (146 : Nat) ({ cls := "CorpuslineLaw", name := "step", desc := "(LCorpusline;[IIII)Z" } : Jvm.MethodName)) ∈ TB := tb_of 225 (by decide +kernel) rfl
theorem tw_226 : (Jvm.Cond.static ({ cls := "CorpuslineLaw", name := "step", desc := "(LCorpusline;[IIII)Z" } : Jvm.MethodName)) ∈ TB := tb_of 226 (by decide +kernel) rfl
theorem tw_227 : (Jvm.Cond.code ({ cls := "CorpuslineLaw", name := "step", desc := "(LCorpusline;[IIII)Z" } : Jvm.MethodName) method_8_code (15 : Nat) (Option.some Jvm.ClassFile.FieldType.boolean)) ∈ TB := tb_of 227 rfl rfl
theorem ok_RL_141 : okI RL 141 yX6_init cX6_init 2 0 := ⟨tw_17, tw_18, rfl, tw_1, tw_19, ⟨by decide, by decide, by decide +kernel⟩⟩
theorem ok_RL_142 : okS RL 142 yL_draw cL_draw 2 (Option.some Jvm.ClassFile.FieldType.int) 2 := ⟨tw_219, tw_220, tw_0, tw_221, ⟨by decide, by decide, by decide +kernel⟩⟩
theorem ok_RL_146 : okS RL 146 yL_step cL_step 15 (Option.some Jvm.ClassFile.FieldType.boolean) 5 := ⟨tw_225, tw_226, tw_0, tw_227, ⟨by decide, by decide, by decide +kernel⟩⟩
/-! the script: an old cell; the law's draw -/
def cxS (G : eG) (b L : Nat) (xs : Nat → Int32) : CX → Prop
  | (p, l, e, R, s, m, args, below, meth, c, Q, n) => va_X b L xs s s.heap ∧ b < s.heap.size ∧ ¬ eA G b
def PS9 (G : eG) (b L : Nat) (xs : Nat → Int32) (h : hp) (U : State) : Prop := PW G h U ∧ va_X b L xs U U.heap ∧ b < U.heap.size ∧ ¬ eA G b
def MS (l : Launch) (G : eG) (b L : Nat) (xs : Nat → Int32) (y : MethodName) (bc : ByteArray) (nL : Nat) (ret : Option FieldType) (rm : Room) (av : List Value) (h : hp) (post : Option Value → hp → Prop) : Prop :=
  Met l y (wsy y bc nL ret) rm (va_Pc av (PS9 G b L xs h)) (QcG G post) rm.cells rm.slots (eA G)
theorem vaPs_blind {G : eG} {b L : Nat} {xs : Nat → Int32} {h : hp} {av : List Value} : FrameBlind (va_Pc av (PS9 G b L xs h)) := fun a U g mk q => ⟨q.1, q.2.1.calling, va_X.moved (u := U) (Vm.Alike.refl U.vm) q.2.2.1, q.2.2.2.1, q.2.2.2.2⟩
theorem MS.of {l : Launch} {G : eG} {b L : Nat} {xs : Nat → Int32} {y : MethodName} {bc : ByteArray} {nL : Nat} {ret : Option FieldType} {rm : Room} {av : List Value} {h : hp} {post : Option Value → hp → Prop} (hy : plainName y.cls = true) (hlen : (lg_sl av).length ≤ nL)
    (body : ∀ x, cxS G b L xs x → cxOk G y.cls bc rm nL x → cxR G post rm.cells rm.slots x → cxT ret x → VV G x 0 0 h 0 (lv_args 0 av) []) : MS l G b L xs y bc nL ret rm av h post := by
  refine Met.ofW (cc := bc) (maxL := nL) (ret := ret) hy rfl ?_
  intro p e s m args below meth c s₁ B hml hv
  obtain ⟨rfl, ⟨hH0, hK0, hZ0⟩, hX0⟩ := hv
  have hts := atoms_spec (ws := wsy y bc nL ret) B.pre
  have hown : s.vm.findClass y.cls = some m.cls := findClass_of_methodNamed B.named
  rw [lg_entry_eq]
  exact body (p, l, e, _, s, m, av.toArray, below, meth, c, _, nL) hX0 ⟨B.exec, B.bytes, hml, hown, fun w hw => hts w (List.mem_cons_of_mem _ hw), hK0, hZ0, B.notSynchronized, rfl, rfl, hH0.1⟩ (fun H locs g k => k) B.returns s.heap [] _ hH0 va_S.rf (lv_entry av hlen)
section SROWS
variable {G : eG} {x : CX} {n1 n2 : Nat} {h : hp} {pc nx b L : Nat} {xs : Nat → Int32} {lv : List (Nat × Value)} {st : List Value} {own : String} {cc : ByteArray} {rm : Room} {nL : Nat}
theorem r_slen (C : cxOk G own cc rm nL x) (B : cxS G b L xs x) (d : dn cc pc .arraylength 1 nx) (kk : VV G x n1 n2 h nx lv (.int (nI L) :: st)) : VV G x n1 n2 h pc lv (.ref b :: st) := by
  obtain ⟨p, l, e, R, s, m, args, below, meth, c, Q, n'⟩ := x
  obtain ⟨d, rfl⟩ := d
  intro H locs ls hh hS hl
  exact va_slen C.1 C.2.1 B.1 B.2.1 B.2.2 hS d (kk H locs ls hh hS hl)
theorem r_sld (C : cxOk G own cc rm nL x) (B : cxS G b L xs x) {i : Nat} (d : dn cc pc .iaload 1 nx) (hi : i < L) (hL : L ≤ 3072) (kk : VV G x n1 n2 h nx lv (.int (xs i) :: st)) : VV G x n1 n2 h pc lv (.int (nI i) :: .ref b :: st) := by
  obtain ⟨p, l, e, R, s, m, args, below, meth, c, Q, n'⟩ := x
  obtain ⟨d, rfl⟩ := d
  intro H locs ls hh hS hl
  refine va_sld C.1 C.2.1 B.1 B.2.1 B.2.2 hS (ix_in hi (by omega)) d ?_
  rw [ix_cl hi (by omega)]
  exact kk H locs ls hh hS hl
variable {rest : List Value} {i n maxL : Nat} {y : MethodName} {bc : ByteArray} {ret : Option FieldType} {As : List Value} {rmc : Room} {post : Option Value → hp → Prop}
theorem r_callSs (C : cxOk G own cc rm nL x) (B : cxS G b L xs x) (d : dn cc pc (.invokestatic i) 3 nx) (F : okS own i y bc maxL ret n) (hM : ∀ l, MS l G b L xs y bc maxL ret rmc As h post) (hn : As.length = n) (hst : st = As.reverse ++ rest) (hcat : (rest.map fun v => v.category).sum ≤ 8) (hR : rmIn rmc rm maxL n1 n2)
    (kk : ∀ v h', post v h' → VV G x (n1 + rmc.cells) (n2 + rmc.slots) h' nx lv (v.toList ++ rest)) : VV G x n1 n2 h pc lv st := by
  obtain ⟨p, l, e, R, s, m, args, below, meth, c, Q, n'⟩ := x
  obtain ⟨d, rfl⟩ := d
  obtain ⟨f1, f2, f4, f5, f6⟩ := F
  intro H locs ls hh hS hl
  obtain ⟨c1, c2, c3, c4, c5, c6, c7, c8, rfl, rfl, c11⟩ := C
  have cw : CallB R s args own i y bc maxL ret (wsy y bc maxL ret) rmc rmc.cells rmc.slots n ∧ (Cond.static y).before args s = true := ⟨callB_of n c5 (tb_wsy f5) rfl rfl rfl (c5 _ f4) (c5 _ f1) f6 hR.1, c5 _ f2⟩
  refine after_call (va_runS (As := As) (rest := rest) ⟨c1, c2, c3, c4, c5⟩ (hM l) cw ⟨vaPs_blind, fun U hU hW => ⟨rfl, PW.now hh c6 c7 hS hU hW, ?_, ?_, B.2.2⟩⟩ rfl hn hl.1 hst (lv_room hcat) d hR.2) hS c11 fun v h' H1 locs1 hp hh1 hS1 => ?_
  · rw [hU]
    exact va_X.moved hW.alike (va_X.kept B.1 (hS.2.1 b B.2.1 B.2.2))
  · rw [hU]
    exact Nat.lt_of_lt_of_le B.2.1 hS.1
  · exact kk v h' hp H1 locs1 ls hh1 hS1 hl
variable {ad : Nat → Nat → Nat} {g : mS} {f : Nat → Nat} {B : Nat}
theorem p_slen (C : cxOk G own cc rm nL x) (SX : cxS G b L xs x) (d : dn cc pc .arraylength 1 nx) (kk : VP G x ad g f rm B nx lv (.int (nI L) :: st)) : VP G x ad g f rm B pc lv (.ref b :: st) := fun h n1 n2 w w1 w2 => r_slen C SX d (kk h n1 n2 w w1 w2)
/-- a number out of the script, or made -/
def drawQ (h : hp) (v : Option Value) (h' : hp) : Prop := (∃ d, d < 2147483648 ∧ v = some (.int (nI d))) ∧ h' = h
theorem p_callD (C : cxOk G own cc rm nL x) (SX : cxS G b L xs x) (d : dn cc pc (.invokestatic i) 3 nx) (F : okS own i y bc maxL ret 2) {k : Nat} (M : ∀ l h, MS l G b L xs y bc maxL ret rmc [.ref b, .int (nI k)] h (drawQ h)) (hst : st = .int (nI k) :: .ref b :: rest) (hcat : (rest.map fun v => v.category).sum ≤ 8) (hR : rmc.frames + 1 ≤ rm.frames ∧ 8 + (maxL + 11) + rmc.locals ≤ rm.locals) (hz : rmc.cells = 0 ∧ rmc.slots = 0)
    (kk : ∀ d, d < 2147483648 → VP G x ad g f rm B nx lv (.int (nI d) :: rest)) : VP G x ad g f rm B pc lv st := by
  intro h n1 n2 w b1 b2
  refine r_callSs C SX d F (fun l => M l h) rfl hst hcat ⟨hR, by omega, by omega⟩ (fun v h' q => ?_)
  obtain ⟨⟨d9, hd, rfl⟩, rfl⟩ := q
  exact kk d9 hd _ _ _ w (by omega) (by omega)
end SROWS
theorem and31b (a : Int32) : ∃ n, n < 2147483648 ∧ a &&& nI 2147483647 = nI n := by
  refine ⟨(a &&& nI 2147483647).toUInt32.toNat, ?_, ?_⟩
  · show (a.toUInt32 &&& (nI 2147483647).toUInt32).toNat < 2147483648
    rw [UInt32.toNat_and, show (nI 2147483647).toUInt32.toNat = 2 ^ 31 - 1 from rfl, Nat.and_two_pow_sub_one_eq_mod]
    omega
  · apply Int32.toBitVec_inj.mp
    show (a &&& nI 2147483647).toBitVec = BitVec.ofNat 32 (a &&& nI 2147483647).toBitVec.toNat
    rw [BitVec.ofNat_toNat, BitVec.setWidth_eq]
/-! the law's beginning: the new class, the empty counts -/
theorem sumTo_0z {f : Nat → Nat} (h : ∀ j, f j = 0) : ∀ k, sumTo f k = 0
  | 0 => rfl
  | k + 1 => by show sumTo f k + f k = 0; rw [sumTo_0z h k, h]
theorem AI_cz : AI cz0 := by
  refine ⟨?_, fun r hr => ⟨?_, fun z => absurd (cz_I hr) z⟩, fun i _ => ?_, fun a b _ _ => ?_, ⟨?_, fun z _ => ?_⟩, ?_⟩
  · have ht : mTests cz0 = 0 := sumTo_0z (fun j => cz_N 8 _) _
    refine ⟨fun s _ => ?_, fun i _ => ?_, fun i _ => ?_, fun i _ => ?_, fun i _ => ?_, fun p _ => ?_, fun i _ => ?_, fun i _ => ?_, fun i _ => ?_, ?_, ?_, ?_, fun r hr => Or.inl (cz_I hr), fun i _ => ⟨?_, ?_⟩, fun r s _ _ _ k _ z _ e => ?_, fun p hp => ?_⟩
    · rw [cz_N]; omega
    · rw [cz_N]; omega
    · rw [cz_N]; omega
    · rw [cz_N]; omega
    · rw [cz_N]; omega
    · rw [cz_N]; omega
    · rw [cz_N]; omega
    · rw [cz_N]; omega
    · rw [cz_N]; omega
    · rw [cz_K]; omega
    · rw [cz_K]; omega
    · rw [ht]; omega
    · rw [cz_N]; omega
    · rw [cz_N]
    · rw [cz_N, Nat.zero_div] at e; omega
    · rw [cz_K, cz_K] at hp; omega
  · rw [cz_B, cz_I hr]; rfl
  · rw [cz_N]; omega
  · rw [cz_N, cz_N, cz_N]; exact ⟨rfl, by rw [Nat.zero_div, Nat.zero_div]⟩
  · rw [cz_B, cz_B]
  · rw [cz_N]; omega
  · rw [cz_K]; exact (sumTo_0z (fun k => by rw [cz_N, Nat.zero_div]) 1600).symm
theorem lnk_cz {G : eG} {ad : Nat → Nat → Nat} {h : hp} {T : Nat → tC3} {X Y : Nat → pA} : lnk G ad h cz0 T X Y := ⟨fun i hi => by rw [cz_K] at hi; omega, fun p hp => by rw [cz_K] at hp; omega⟩
theorem pI_cz : pI cz0 (fun _ => 0) 0 := ⟨fun s _ => (cz_N 1 s).symm, (cz_K 15).symm, (cz_K 40).symm, cz_K 16, fun r hr => Or.inl ⟨cz_I hr, rfl⟩, Nat.le_refl _, fun s hs => ⟨fun k hk => by rw [cz_N] at hk; omega, fun e => by rw [cz_B] at e; cases e⟩⟩
def adP (o : Nat) (ad : Nat → Nat → Nat) : Nat → Nat → Nat := fun k i => if k = 101 then o else ad k i
theorem adP_ok {o k i : Nat} {ad : Nat → Nat → Nat} (h : k < 100) : adP o ad k i = ad k i := if_neg (by omega)
theorem cOk_lt {k i : Nat} (h : cOk k i = true) : k < 100 := by rcases cOk_cases h with h | h | h | h | h | h | h | h | h | h | h | h | h | h | h <;> omega
theorem ce_adP {G : eG} {o : Nat} {ad : Nat → Nat → Nat} {g : mS} {k i : Nat} : ce G (adP o ad) g k i = ce G ad g k i := by
  unfold ce
  split <;> (try rfl)
theorem pw_cz {G : eG} {ad : Nat → Nat → Nat} {o : Nat} {h : hp} (c : co G ad cz0 h) (ho : h o = none) : pw G (adP o ad) cz0 (fun _ => 0) (hup h o (aI G 21 (fun _ => 0))) := by
  have no : ∀ y e, h y = some e → y ≠ o := fun y e hy z => by rw [z, ho] at hy; cases hy
  refine ⟨⟨⟨fun k i hk => ?_, fun k i k' i' hk hk' e => ?_, fun k i => ?_⟩, hup_s, fun k i hk z => ?_⟩, AI_cz, fun _ => (fun _ => 0, 0, 0), fun _ => (0, 0, 0, 0, false, fun _ => 0, fun _ => 0), fun _ => (0, 0, 0, 0, false, fun _ => 0, fun _ => 0), lnk_cz⟩
  · rw [adP_ok (cOk_lt hk), ce_adP, hup_n (no _ _ (c.1 k i hk))]; exact c.1 k i hk
  · rw [adP_ok (cOk_lt hk), adP_ok (cOk_lt hk')] at e; exact c.2.1 k i k' i' hk hk' e
  · unfold adP
    split
    · exact ⟨_, hup_s⟩
    · obtain ⟨e, he⟩ := c.2.2 k i
      exact ⟨e, by rw [hup_n (no _ _ he)]; exact he⟩
  · rw [adP_ok (cOk_lt hk)] at z
    exact no _ _ (c.1 k i hk) z.symm

def dl_L_draw : List (Nat × Instr × Nat) := [(0, .iload_n 1, 1), (1, .aload_n 0, 1), (2, .arraylength, 1), (3, .if_icmp .ge 12, 3), (6, .aload_n 0, 1), (7, .iload_n 1, 1), (8, .iaload, 1), (9, .ldc 7, 2), (11, .iand, 1), (12, .goto 12, 3), (15, .ldc 8, 2), (17, .iload_n 1, 1), (18, .iconst 2, 1), (19, .iadd, 1), (20, .imul, 1), (21, .ldc 9, 2), (23, .irem, 1), (24, .ireturn, 1)]
theorem dc_L_draw : dnL cL_draw dl_L_draw = true := by decide +kernel
theorem d_L_draw_0 : dn cL_draw 0 (.iload_n 1) 1 1 := dnAt dc_L_draw 0 rfl rfl
theorem d_L_draw_1 : dn cL_draw 1 (.aload_n 0) 1 2 := dnAt dc_L_draw 1 rfl rfl
theorem d_L_draw_2 : dn cL_draw 2 (.arraylength) 1 3 := dnAt dc_L_draw 2 rfl rfl
theorem d_L_draw_3 : dn cL_draw 3 (.if_icmp .ge 12) 3 6 := dnAt dc_L_draw 3 rfl rfl
theorem d_L_draw_6 : dn cL_draw 6 (.aload_n 0) 1 7 := dnAt dc_L_draw 4 rfl rfl
theorem d_L_draw_7 : dn cL_draw 7 (.iload_n 1) 1 8 := dnAt dc_L_draw 5 rfl rfl
theorem d_L_draw_8 : dn cL_draw 8 (.iaload) 1 9 := dnAt dc_L_draw 6 rfl rfl
theorem d_L_draw_9 : dn cL_draw 9 (.ldc 7) 2 11 := dnAt dc_L_draw 7 rfl rfl
theorem d_L_draw_11 : dn cL_draw 11 (.iand) 1 12 := dnAt dc_L_draw 8 rfl rfl
theorem d_L_draw_12 : dn cL_draw 12 (.goto 12) 3 15 := dnAt dc_L_draw 9 rfl rfl
theorem d_L_draw_15 : dn cL_draw 15 (.ldc 8) 2 17 := dnAt dc_L_draw 10 rfl rfl
theorem d_L_draw_17 : dn cL_draw 17 (.iload_n 1) 1 18 := dnAt dc_L_draw 11 rfl rfl
theorem d_L_draw_18 : dn cL_draw 18 (.iconst 2) 1 19 := dnAt dc_L_draw 12 rfl rfl
theorem d_L_draw_19 : dn cL_draw 19 (.iadd) 1 20 := dnAt dc_L_draw 13 rfl rfl
theorem d_L_draw_20 : dn cL_draw 20 (.imul) 1 21 := dnAt dc_L_draw 14 rfl rfl
theorem d_L_draw_21 : dn cL_draw 21 (.ldc 9) 2 23 := dnAt dc_L_draw 15 rfl rfl
theorem d_L_draw_23 : dn cL_draw 23 (.irem) 1 24 := dnAt dc_L_draw 16 rfl rfl
theorem d_L_draw_24 : dn cL_draw 24 (.ireturn) 1 25 := dnAt dc_L_draw 17 rfl rfl
set_option maxHeartbeats 4000000 in
set_option maxRecDepth 100000 in
theorem lawm_draw {l : Launch} {G : eG} {b L k : Nat} {xs : Nat → Int32} {h : hp} (hL : L ≤ 260) (hk : k < 1000) : MS l G b L xs yL_draw cL_draw 2 (Option.some Jvm.ClassFile.FieldType.int) { frames := 0, cells := 0, slots := 0, locals := 0 } [.ref b, .int (nI k)] h (drawQ h) := by
  refine MS.of (by decide) (Nat.le_of_ble_eq_true rfl) ?_
  intro x SX C A TY
  show VV G x 0 0 h 0 [(0, .ref b), (1, .int (nI k))] []
  have fin : ∀ d, d < 2147483648 → VV G x 0 0 h 24 [(0, .ref b), (1, .int (nI k))] [.int (nI d)] := fun d hd => r_iret C A TY d_L_draw_24 rfl (Nat.le_refl _) (Nat.le_refl _) ⟨⟨d, hd, rfl⟩, rfl⟩
  refine r_iload_n C d_L_draw_0 1 rfl ?_
  refine r_aload_n C d_L_draw_1 0 rfl ?_
  refine r_slen C SX d_L_draw_2 ?_
  refine rn_icmp_ge C d_L_draw_3 (tgt := 15) rfl (by omega) (by omega) (fun c => ?_) (fun c => ?_)
  · refine r_ldc C d_L_draw_15 (v := (104729 : Int32)) tw_223 ?_
    refine r_st (st' := [.int (nI 104729)]) rfl ?_
    refine r_iload_n C d_L_draw_17 1 rfl ?_
    refine r_iconst C d_L_draw_18 (v := nI 2) rfl ?_
    refine rn_iadd C d_L_draw_19 ?_
    refine rn_imul C d_L_draw_20 ?_
    refine r_ldc C d_L_draw_21 (v := (65521 : Int32)) tw_224 ?_
    refine r_st (st' := [.int (nI 65521), .int (nI (104729 * (k + 2)))]) rfl ?_
    refine rn_irem C d_L_draw_23 (by omega) (by omega) (by omega) ?_
    exact fin _ (by omega)
  · refine r_aload_n C d_L_draw_6 0 rfl ?_
    refine r_iload_n C d_L_draw_7 1 rfl ?_
    refine r_sld C SX d_L_draw_8 (i := k) c (by omega) ?_
    refine r_ldc C d_L_draw_9 (v := (2147483647 : Int32)) tw_222 ?_
    refine r_iand C d_L_draw_11 ?_
    obtain ⟨d, hd, ed⟩ := and31b (xs k)
    refine r_st (st' := [.int (nI d)]) (by rw [← ed]; rfl) ?_
    exact r_goto C d_L_draw_12 (tgt := 24) rfl (fin d hd)
def dl_L_law : List (Nat × Instr × Nat) := [(0, .new 11, 3), (3, .dup, 1), (4, .invokespecial 141, 3), (7, .astore_n 1, 1), (8, .bipush 21, 2), (10, .newarray .int, 2), (12, .astore_n 2, 1), (13, .aload_n 1, 1), (14, .iconst 0, 1), (15, .invokevirtual 82, 3), (18, .iconst (-1), 1), (19, .if_icmp .ne 23, 3), (22, .aload_n 1, 1), (23, .iconst 0, 1), (24, .invokevirtual 66, 3), (27, .ifCond .ne 15, 3), (30, .aload_n 1, 1), (31, .iconst 1, 1), (32, .invokevirtual 66, 3), (35, .ifCond .ne 7, 3), (38, .iconst 1, 1), (39, .goto 4, 3), (42, .iconst 0, 1), (43, .istore_n 3, 1), (44, .aload_n 0, 1), (45, .arraylength, 1), (46, .iconst 3, 1), (47, .idiv, 1), (48, .bipush 90, 2), (50, .if_icmp .le 8, 3), (53, .bipush 90, 2), (55, .goto 7, 3), (58, .aload_n 0, 1), (59, .arraylength, 1), (60, .iconst 3, 1), (61, .idiv, 1), (62, .istore 4, 2), (64, .iconst 0, 1), (65, .istore 5, 2), (67, .iload 5, 2), (69, .iload 4, 2), (71, .if_icmp .ge 47, 3), (74, .iload_n 3, 1), (75, .ifCond .eq 43, 3), (78, .aload_n 1, 1), (79, .aload_n 2, 1), (80, .aload_n 0, 1), (81, .iconst 3, 1), (82, .iload 5, 2), (84, .imul, 1), (85, .invokestatic 142, 3), (88, .aload_n 0, 1), (89, .iconst 3, 1), (90, .iload 5, 2), (92, .imul, 1), (93, .iconst 1, 1), (94, .iadd, 1), (95, .invokestatic 142, 3), (98, .aload_n 0, 1), (99, .iconst 3, 1), (100, .iload 5, 2), (102, .imul, 1), (103, .iconst 2, 1), (104, .iadd, 1), (105, .invokestatic 142, 3), (108, .invokestatic 146, 3), (111, .istore_n 3, 1), (112, .iinc 5 1, 3), (115, .goto (-48), 3), (118, .iload_n 3, 1), (119, .ifCond .eq 29, 3), (122, .aload_n 1, 1), (123, .iconst 0, 1), (124, .invokevirtual 66, 3), (127, .aload_n 2, 1), (128, .iconst 0, 1), (129, .iaload, 1), (130, .if_icmp .ne 18, 3), (133, .aload_n 1, 1), (134, .iconst 1, 1), (135, .invokevirtual 66, 3), (138, .aload_n 2, 1), (139, .iconst 1, 1), (140, .iaload, 1), (141, .if_icmp .ne 7, 3), (144, .iconst 1, 1), (145, .goto 4, 3), (148, .iconst 0, 1), (149, .ireturn, 1)]
theorem dc_L_law : dnL cL_law dl_L_law = true := by decide +kernel
theorem d_L_law_0 : dn cL_law 0 (.new 11) 3 3 := dnAt dc_L_law 0 rfl rfl
theorem d_L_law_3 : dn cL_law 3 (.dup) 1 4 := dnAt dc_L_law 1 rfl rfl
theorem d_L_law_4 : dn cL_law 4 (.invokespecial 141) 3 7 := dnAt dc_L_law 2 rfl rfl
theorem d_L_law_7 : dn cL_law 7 (.astore_n 1) 1 8 := dnAt dc_L_law 3 rfl rfl
theorem d_L_law_8 : dn cL_law 8 (.bipush 21) 2 10 := dnAt dc_L_law 4 rfl rfl
theorem d_L_law_10 : dn cL_law 10 (.newarray .int) 2 12 := dnAt dc_L_law 5 rfl rfl
theorem d_L_law_12 : dn cL_law 12 (.astore_n 2) 1 13 := dnAt dc_L_law 6 rfl rfl
theorem d_L_law_13 : dn cL_law 13 (.aload_n 1) 1 14 := dnAt dc_L_law 7 rfl rfl
theorem d_L_law_14 : dn cL_law 14 (.iconst 0) 1 15 := dnAt dc_L_law 8 rfl rfl
theorem d_L_law_15 : dn cL_law 15 (.invokevirtual 82) 3 18 := dnAt dc_L_law 9 rfl rfl
theorem d_L_law_18 : dn cL_law 18 (.iconst (-1)) 1 19 := dnAt dc_L_law 10 rfl rfl
theorem d_L_law_19 : dn cL_law 19 (.if_icmp .ne 23) 3 22 := dnAt dc_L_law 11 rfl rfl
theorem d_L_law_22 : dn cL_law 22 (.aload_n 1) 1 23 := dnAt dc_L_law 12 rfl rfl
theorem d_L_law_23 : dn cL_law 23 (.iconst 0) 1 24 := dnAt dc_L_law 13 rfl rfl
theorem d_L_law_24 : dn cL_law 24 (.invokevirtual 66) 3 27 := dnAt dc_L_law 14 rfl rfl
theorem d_L_law_27 : dn cL_law 27 (.ifCond .ne 15) 3 30 := dnAt dc_L_law 15 rfl rfl
theorem d_L_law_30 : dn cL_law 30 (.aload_n 1) 1 31 := dnAt dc_L_law 16 rfl rfl
theorem d_L_law_31 : dn cL_law 31 (.iconst 1) 1 32 := dnAt dc_L_law 17 rfl rfl
theorem d_L_law_32 : dn cL_law 32 (.invokevirtual 66) 3 35 := dnAt dc_L_law 18 rfl rfl
theorem d_L_law_35 : dn cL_law 35 (.ifCond .ne 7) 3 38 := dnAt dc_L_law 19 rfl rfl
theorem d_L_law_38 : dn cL_law 38 (.iconst 1) 1 39 := dnAt dc_L_law 20 rfl rfl
theorem d_L_law_39 : dn cL_law 39 (.goto 4) 3 42 := dnAt dc_L_law 21 rfl rfl
theorem d_L_law_43 : dn cL_law 43 (.istore_n 3) 1 44 := dnAt dc_L_law 23 rfl rfl
theorem d_L_law_44 : dn cL_law 44 (.aload_n 0) 1 45 := dnAt dc_L_law 24 rfl rfl
theorem d_L_law_45 : dn cL_law 45 (.arraylength) 1 46 := dnAt dc_L_law 25 rfl rfl
theorem d_L_law_46 : dn cL_law 46 (.iconst 3) 1 47 := dnAt dc_L_law 26 rfl rfl
theorem d_L_law_47 : dn cL_law 47 (.idiv) 1 48 := dnAt dc_L_law 27 rfl rfl
theorem d_L_law_48 : dn cL_law 48 (.bipush 90) 2 50 := dnAt dc_L_law 28 rfl rfl
theorem d_L_law_50 : dn cL_law 50 (.if_icmp .le 8) 3 53 := dnAt dc_L_law 29 rfl rfl
theorem d_L_law_53 : dn cL_law 53 (.bipush 90) 2 55 := dnAt dc_L_law 30 rfl rfl
theorem d_L_law_55 : dn cL_law 55 (.goto 7) 3 58 := dnAt dc_L_law 31 rfl rfl
theorem d_L_law_58 : dn cL_law 58 (.aload_n 0) 1 59 := dnAt dc_L_law 32 rfl rfl
theorem d_L_law_59 : dn cL_law 59 (.arraylength) 1 60 := dnAt dc_L_law 33 rfl rfl
theorem d_L_law_60 : dn cL_law 60 (.iconst 3) 1 61 := dnAt dc_L_law 34 rfl rfl
theorem d_L_law_61 : dn cL_law 61 (.idiv) 1 62 := dnAt dc_L_law 35 rfl rfl
theorem d_L_law_62 : dn cL_law 62 (.istore 4) 2 64 := dnAt dc_L_law 36 rfl rfl
theorem d_L_law_64 : dn cL_law 64 (.iconst 0) 1 65 := dnAt dc_L_law 37 rfl rfl
theorem d_L_law_65 : dn cL_law 65 (.istore 5) 2 67 := dnAt dc_L_law 38 rfl rfl
theorem d_L_law_67 : dn cL_law 67 (.iload 5) 2 69 := dnAt dc_L_law 39 rfl rfl
theorem d_L_law_69 : dn cL_law 69 (.iload 4) 2 71 := dnAt dc_L_law 40 rfl rfl
theorem d_L_law_71 : dn cL_law 71 (.if_icmp .ge 47) 3 74 := dnAt dc_L_law 41 rfl rfl
theorem d_L_law_74 : dn cL_law 74 (.iload_n 3) 1 75 := dnAt dc_L_law 42 rfl rfl
theorem d_L_law_75 : dn cL_law 75 (.ifCond .eq 43) 3 78 := dnAt dc_L_law 43 rfl rfl
theorem d_L_law_78 : dn cL_law 78 (.aload_n 1) 1 79 := dnAt dc_L_law 44 rfl rfl
theorem d_L_law_79 : dn cL_law 79 (.aload_n 2) 1 80 := dnAt dc_L_law 45 rfl rfl
theorem d_L_law_80 : dn cL_law 80 (.aload_n 0) 1 81 := dnAt dc_L_law 46 rfl rfl
theorem d_L_law_81 : dn cL_law 81 (.iconst 3) 1 82 := dnAt dc_L_law 47 rfl rfl
theorem d_L_law_82 : dn cL_law 82 (.iload 5) 2 84 := dnAt dc_L_law 48 rfl rfl
theorem d_L_law_84 : dn cL_law 84 (.imul) 1 85 := dnAt dc_L_law 49 rfl rfl
theorem d_L_law_85 : dn cL_law 85 (.invokestatic 142) 3 88 := dnAt dc_L_law 50 rfl rfl
theorem d_L_law_88 : dn cL_law 88 (.aload_n 0) 1 89 := dnAt dc_L_law 51 rfl rfl
theorem d_L_law_89 : dn cL_law 89 (.iconst 3) 1 90 := dnAt dc_L_law 52 rfl rfl
theorem d_L_law_90 : dn cL_law 90 (.iload 5) 2 92 := dnAt dc_L_law 53 rfl rfl
theorem d_L_law_92 : dn cL_law 92 (.imul) 1 93 := dnAt dc_L_law 54 rfl rfl
theorem d_L_law_93 : dn cL_law 93 (.iconst 1) 1 94 := dnAt dc_L_law 55 rfl rfl
theorem d_L_law_94 : dn cL_law 94 (.iadd) 1 95 := dnAt dc_L_law 56 rfl rfl
theorem d_L_law_95 : dn cL_law 95 (.invokestatic 142) 3 98 := dnAt dc_L_law 57 rfl rfl
theorem d_L_law_98 : dn cL_law 98 (.aload_n 0) 1 99 := dnAt dc_L_law 58 rfl rfl
theorem d_L_law_99 : dn cL_law 99 (.iconst 3) 1 100 := dnAt dc_L_law 59 rfl rfl
theorem d_L_law_100 : dn cL_law 100 (.iload 5) 2 102 := dnAt dc_L_law 60 rfl rfl
theorem d_L_law_102 : dn cL_law 102 (.imul) 1 103 := dnAt dc_L_law 61 rfl rfl
theorem d_L_law_103 : dn cL_law 103 (.iconst 2) 1 104 := dnAt dc_L_law 62 rfl rfl
theorem d_L_law_104 : dn cL_law 104 (.iadd) 1 105 := dnAt dc_L_law 63 rfl rfl
theorem d_L_law_105 : dn cL_law 105 (.invokestatic 142) 3 108 := dnAt dc_L_law 64 rfl rfl
theorem d_L_law_108 : dn cL_law 108 (.invokestatic 146) 3 111 := dnAt dc_L_law 65 rfl rfl
theorem d_L_law_111 : dn cL_law 111 (.istore_n 3) 1 112 := dnAt dc_L_law 66 rfl rfl
theorem d_L_law_112 : dn cL_law 112 (.iinc 5 1) 3 115 := dnAt dc_L_law 67 rfl rfl
theorem d_L_law_115 : dn cL_law 115 (.goto (-48)) 3 118 := dnAt dc_L_law 68 rfl rfl
theorem d_L_law_118 : dn cL_law 118 (.iload_n 3) 1 119 := dnAt dc_L_law 69 rfl rfl
theorem d_L_law_119 : dn cL_law 119 (.ifCond .eq 29) 3 122 := dnAt dc_L_law 70 rfl rfl
theorem d_L_law_122 : dn cL_law 122 (.aload_n 1) 1 123 := dnAt dc_L_law 71 rfl rfl
theorem d_L_law_123 : dn cL_law 123 (.iconst 0) 1 124 := dnAt dc_L_law 72 rfl rfl
theorem d_L_law_124 : dn cL_law 124 (.invokevirtual 66) 3 127 := dnAt dc_L_law 73 rfl rfl
theorem d_L_law_127 : dn cL_law 127 (.aload_n 2) 1 128 := dnAt dc_L_law 74 rfl rfl
theorem d_L_law_128 : dn cL_law 128 (.iconst 0) 1 129 := dnAt dc_L_law 75 rfl rfl
theorem d_L_law_129 : dn cL_law 129 (.iaload) 1 130 := dnAt dc_L_law 76 rfl rfl
theorem d_L_law_130 : dn cL_law 130 (.if_icmp .ne 18) 3 133 := dnAt dc_L_law 77 rfl rfl
theorem d_L_law_133 : dn cL_law 133 (.aload_n 1) 1 134 := dnAt dc_L_law 78 rfl rfl
theorem d_L_law_134 : dn cL_law 134 (.iconst 1) 1 135 := dnAt dc_L_law 79 rfl rfl
theorem d_L_law_135 : dn cL_law 135 (.invokevirtual 66) 3 138 := dnAt dc_L_law 80 rfl rfl
theorem d_L_law_138 : dn cL_law 138 (.aload_n 2) 1 139 := dnAt dc_L_law 81 rfl rfl
theorem d_L_law_139 : dn cL_law 139 (.iconst 1) 1 140 := dnAt dc_L_law 82 rfl rfl
theorem d_L_law_140 : dn cL_law 140 (.iaload) 1 141 := dnAt dc_L_law 83 rfl rfl
theorem d_L_law_141 : dn cL_law 141 (.if_icmp .ne 7) 3 144 := dnAt dc_L_law 84 rfl rfl
theorem d_L_law_144 : dn cL_law 144 (.iconst 1) 1 145 := dnAt dc_L_law 85 rfl rfl
theorem d_L_law_145 : dn cL_law 145 (.goto 4) 3 148 := dnAt dc_L_law 86 rfl rfl
theorem d_L_law_149 : dn cL_law 149 (.ireturn) 1 150 := dnAt dc_L_law 88 rfl rfl
set_option maxHeartbeats 4000000 in
set_option maxRecDepth 100000 in
theorem law_body {G : eG} {x : CX} {ad : Nat → Nat → Nat} {b L : Nat} {xs : Nat → Int32} (C : cxOk G RL cL_law room_1 6 x) (SX : cxS G b L xs x) (LX : pX x) (hL : L ≤ 260) (E : ∀ n1 n2 h lv, n1 ≤ 751175 → n2 ≤ 6848174 → VV G x n1 n2 h 144 lv []) : VP G x ad cz0 (fun _ => 0) room_1 180020 13 [(2, .ref (ad 101 0)), (1, .ref (ad 0 0)), (0, .ref b)] [] := by
  refine p_aload_n C d_L_law_13 1 rfl ?_
  refine p_iconst C d_L_law_14 (v := (nI 0)) rfl ?_
  refine p_callC (As := [.int (nI 0)]) (B' := 180020) C d_L_law_15 ok_RL_82 (fun l h T X Y m A k => q_size m A k ) rfl rfl (rest := []) rfl (Nat.le_of_ble_eq_true rfl) ⟨by decide, Nat.le_of_ble_eq_true rfl⟩ ⟨(show 180020 + 0 ≤ 180020 by omega), Nat.le_of_ble_eq_true rfl⟩ (fun v9 g1 e1 => ?_)
  obtain ⟨rfl, e1⟩ := e1
  show VP G x ad g1 (fun _ => 0) room_1 180020 18 [(2, .ref (ad 101 0)), (1, .ref (ad 0 0)), (0, .ref b)] [.int (rSz cz0 (nI 0))]
  refine p_st (st' := [.int ((-1))]) (by rw [a_none (by omega) (cz_I (by omega))]) ?_
  refine p_iconst C d_L_law_18 (v := ((-1))) rfl ?_
  refine p_icmp_ne C d_L_law_19 (tgt := 42) rfl (fun c_19 => ?_) (fun c_19 => ?_)
  · skip
    exact absurd rfl c_19
  · skip
    refine p_aload_n C d_L_law_22 1 rfl ?_
    refine p_iconst C d_L_law_23 (v := (nI 0)) rfl ?_
    refine p_callX (As := [.int (nI 0)]) (B' := 180019) C LX d_L_law_24 ok_RL_66 (fun l h T X Y hl m A k => q_tokens hl m A k (a_side (by omega))) (fun _ x => x) rfl rfl (rest := []) rfl (Nat.le_of_ble_eq_true rfl) ⟨by decide, Nat.le_of_ble_eq_true rfl⟩ ⟨(show 180019 + 1 ≤ 180020 by omega), Nat.le_of_ble_eq_true rfl⟩ (fun v9 g2 e2 => ?_)
    obtain ⟨rfl, e2⟩ := e2
    show VP G x ad g2 (fun _ => 0) room_1 180019 27 [(2, .ref (ad 101 0)), (1, .ref (ad 0 0)), (0, .ref b)] [.int (nI (rTokens g1 (nI 0)))]
    refine p_st (st' := [.int (nI 0)]) (by rw [a_tokens (by omega), e1.N (by decide), cz_N]) ?_
    refine pn_if_ne C d_L_law_27 (tgt := 42) rfl (by omega) (fun c_27 => ?_) (fun c_27 => ?_)
    · skip
      exfalso; omega
    · skip
      refine p_aload_n C d_L_law_30 1 rfl ?_
      refine p_iconst C d_L_law_31 (v := (nI 1)) rfl ?_
      refine p_callX (As := [.int (nI 1)]) (B' := 180018) C LX d_L_law_32 ok_RL_66 (fun l h T X Y hl m A k => q_tokens hl m A k (a_side (by omega))) (fun _ x => x) rfl rfl (rest := []) rfl (Nat.le_of_ble_eq_true rfl) ⟨by decide, Nat.le_of_ble_eq_true rfl⟩ ⟨(show 180018 + 1 ≤ 180019 by omega), Nat.le_of_ble_eq_true rfl⟩ (fun v9 g3 e3 => ?_)
      obtain ⟨rfl, e3⟩ := e3
      show VP G x ad g3 (fun _ => 0) room_1 180018 35 [(2, .ref (ad 101 0)), (1, .ref (ad 0 0)), (0, .ref b)] [.int (nI (rTokens g2 (nI 1)))]
      refine p_st (st' := [.int (nI 0)]) (by rw [a_tokens (by omega), e2.N (by decide), e1.N (by decide), cz_N]) ?_
      refine pn_if_ne C d_L_law_35 (tgt := 42) rfl (by omega) (fun c_35 => ?_) (fun c_35 => ?_)
      · skip
        exfalso; omega
      · skip
        refine p_iconst C d_L_law_38 (v := (bI true)) rfl ?_
        refine p_goto C d_L_law_39 (tgt := 43) rfl ?_
        refine p_istore_n C d_L_law_43 (lv' := [(3, .int (bI true)), (2, .ref (ad 101 0)), (1, .ref (ad 0 0)), (0, .ref b)]) (by decide) rfl ?_
        have join_62 : ∀ (N : Nat), (N ≤ 90) → VP G x ad g3 (fun _ => 0) room_1 180010 62 [(3, .int (bI true)), (2, .ref (ad 101 0)), (1, .ref (ad 0 0)), (0, .ref b)] [.int (nI N)] := by
          intro N hN
          refine p_istore C d_L_law_62 (lv' := [(4, .int (nI N)), (3, .int (bI true)), (2, .ref (ad 101 0)), (1, .ref (ad 0 0)), (0, .ref b)]) (by decide) rfl ?_
          refine p_iconst C d_L_law_64 (v := (nI 0)) rfl ?_
          refine p_istore C d_L_law_65 (lv' := [(5, .int (nI 0)), (4, .int (nI N)), (3, .int (bI true)), (2, .ref (ad 101 0)), (1, .ref (ad 0 0)), (0, .ref b)]) (by decide) rfl ?_
          have loop_67 : ∀ (fuel : Nat) (k : Nat) (gq : mS) (fq : Nat → Nat), (k ≤ N) → (pI gq fq k) → (N + 1 - k) < fuel → VP G x ad gq fq room_1 (2000 * (90 - k) + 10) 67 [(5, .int (nI k)), (4, .int (nI N)), (3, .int (bI true)), (2, .ref (ad 101 0)), (1, .ref (ad 0 0)), (0, .ref b)] [] := by
            intro fuel
            induction fuel with
            | zero => intro k gq fq hk hP hf9; exact absurd hf9 (Nat.not_lt_zero _)
            | succ fuel ih_67 =>
              intro k gq fq hk hP hf9
              refine p_iload C d_L_law_67 0 rfl ?_
              refine p_iload C d_L_law_69 1 rfl ?_
              refine pn_icmp_ge C d_L_law_71 (tgt := 118) rfl (by omega) (by omega) (fun c_71 => ?_) (fun c_71 => ?_)
              · skip
                refine p_iload_n C d_L_law_118 2 rfl ?_
                refine pb_if_eq C d_L_law_119 (tgt := 148) rfl (fun c_119 => ?_) (fun c_119 => ?_)
                · skip
                  cases c_119
                · skip
                  refine p_AI (fun A9 => ?_)
                  have y0 := A9.1.1 0 (by omega)
                  have y1 := A9.1.1 1 (by omega)
                  refine p_aload_n C d_L_law_122 4 rfl ?_
                  refine p_iconst C d_L_law_123 (v := (nI 0)) rfl ?_
                  refine p_callX (As := [.int (nI 0)]) (B' := 2000 * (90 - k) + 9) C LX d_L_law_124 ok_RL_66 (fun l h T X Y hl m A k => q_tokens hl m A k (a_side (by omega))) (fun _ x => x) rfl rfl (rest := []) rfl (Nat.le_of_ble_eq_true rfl) ⟨by decide, Nat.le_of_ble_eq_true rfl⟩ ⟨(show 2000 * (90 - k) + 9 + 1 ≤ 2000 * (90 - k) + 10 by omega), Nat.le_of_ble_eq_true rfl⟩ (fun v9 g4 e4 => ?_)
                  obtain ⟨rfl, e4⟩ := e4
                  show VP G x ad g4 fq room_1 (2000 * (90 - k) + 9) 127 [(5, .int (nI k)), (4, .int (nI N)), (3, .int (bI true)), (2, .ref (ad 101 0)), (1, .ref (ad 0 0)), (0, .ref b)] [.int (nI (rTokens gq (nI 0)))]
                  refine p_st (st' := [.int (nI (mN gq 1 0))]) (by rw [a_tokens (by omega)]) ?_
                  have eK := e4
                  refine p_aload_n C d_L_law_127 3 rfl ?_
                  refine p_iconst C d_L_law_128 (v := (nI 0)) rfl ?_
                  refine p_cld C d_L_law_129 (by omega) ?_
                  refine p_st (st' := [.int (nI (mN gq 1 0)), .int (nI (mN gq 1 0))]) (by rw [hP.1 0 (by omega)]) ?_
                  refine pn_icmp_ne C d_L_law_130 (tgt := 148) rfl (by omega) (by omega) (fun c_130 => ?_) (fun c_130 => ?_)
                  · skip
                    exact absurd rfl c_130
                  · skip
                    refine p_aload_n C d_L_law_133 4 rfl ?_
                    refine p_iconst C d_L_law_134 (v := (nI 1)) rfl ?_
                    refine p_callX (As := [.int (nI 1)]) (B' := 2000 * (90 - k) + 8) C LX d_L_law_135 ok_RL_66 (fun l h T X Y hl m A k => q_tokens hl m A k (a_side (by omega))) (fun _ x => x) rfl rfl (rest := []) rfl (Nat.le_of_ble_eq_true rfl) ⟨by decide, Nat.le_of_ble_eq_true rfl⟩ ⟨(show 2000 * (90 - k) + 8 + 1 ≤ 2000 * (90 - k) + 9 by omega), Nat.le_of_ble_eq_true rfl⟩ (fun v9 g5 e5 => ?_)
                    obtain ⟨rfl, e5⟩ := e5
                    show VP G x ad g5 fq room_1 (2000 * (90 - k) + 8) 138 [(5, .int (nI k)), (4, .int (nI N)), (3, .int (bI true)), (2, .ref (ad 101 0)), (1, .ref (ad 0 0)), (0, .ref b)] [.int (nI (rTokens g4 (nI 1)))]
                    refine p_st (st' := [.int (nI (mN gq 1 1))]) (by rw [a_tokens (by omega), eK.N (by decide)]) ?_
                    refine p_aload_n C d_L_law_138 3 rfl ?_
                    refine p_iconst C d_L_law_139 (v := (nI 1)) rfl ?_
                    refine p_cld C d_L_law_140 (by omega) ?_
                    refine p_st (st' := [.int (nI (mN gq 1 1)), .int (nI (mN gq 1 1))]) (by rw [hP.1 1 (by omega)]) ?_
                    refine pn_icmp_ne C d_L_law_141 (tgt := 148) rfl (by omega) (by omega) (fun c_141 => ?_) (fun c_141 => ?_)
                    · skip
                      exact absurd rfl c_141
                    · skip
                      exact fun h n1 n2 w w1 w2 => E n1 n2 h _ (Nat.le_trans (Nat.le_add_right _ _) w1) (Nat.le_trans (Nat.le_add_right _ _) w2)
              · skip
                refine p_iload_n C d_L_law_74 2 rfl ?_
                refine pb_if_eq C d_L_law_75 (tgt := 118) rfl (fun c_75 => ?_) (fun c_75 => ?_)
                · skip
                  cases c_75
                · skip
                  refine p_B (B' := 2000 * (90 - (k + 1)) + 2010) (by omega) ?_
                  refine p_aload_n C d_L_law_78 4 rfl ?_
                  refine p_aload_n C d_L_law_79 3 rfl ?_
                  refine p_aload_n C d_L_law_80 5 rfl ?_
                  refine p_iconst C d_L_law_81 (v := (nI 3)) rfl ?_
                  refine p_iload C d_L_law_82 0 rfl ?_
                  refine pn_imul C d_L_law_84 ?_
                  refine p_callD C SX d_L_law_85 ok_RL_142 (fun l h => lawm_draw hL (by omega)) (rest := [.ref (ad 101 0), .ref (ad 0 0)]) rfl (Nat.le_of_ble_eq_true rfl) ⟨by decide, Nat.le_of_ble_eq_true rfl⟩ ⟨rfl, rfl⟩ (fun d6 hd6 => ?_)
                  refine p_aload_n C d_L_law_88 5 rfl ?_
                  refine p_iconst C d_L_law_89 (v := (nI 3)) rfl ?_
                  refine p_iload C d_L_law_90 0 rfl ?_
                  refine pn_imul C d_L_law_92 ?_
                  refine p_iconst C d_L_law_93 (v := (nI 1)) rfl ?_
                  refine pn_iadd C d_L_law_94 ?_
                  refine p_callD C SX d_L_law_95 ok_RL_142 (fun l h => lawm_draw hL (by omega)) (rest := [.int (nI d6), .ref (ad 101 0), .ref (ad 0 0)]) rfl (Nat.le_of_ble_eq_true rfl) ⟨by decide, Nat.le_of_ble_eq_true rfl⟩ ⟨rfl, rfl⟩ (fun d7 hd7 => ?_)
                  refine p_aload_n C d_L_law_98 5 rfl ?_
                  refine p_iconst C d_L_law_99 (v := (nI 3)) rfl ?_
                  refine p_iload C d_L_law_100 0 rfl ?_
                  refine pn_imul C d_L_law_102 ?_
                  refine p_iconst C d_L_law_103 (v := (nI 2)) rfl ?_
                  refine pn_iadd C d_L_law_104 ?_
                  refine p_callD C SX d_L_law_105 ok_RL_142 (fun l h => lawm_draw hL (by omega)) (rest := [.int (nI d7), .int (nI d6), .ref (ad 101 0), .ref (ad 0 0)]) rfl (Nat.le_of_ble_eq_true rfl) ⟨by decide, Nat.le_of_ble_eq_true rfl⟩ ⟨rfl, rfl⟩ (fun d8 hd8 => ?_)
                  refine p_callS (As := [.ref (ad 0 0), .ref (ad 101 0), .int (nI d6), .int (nI d7), .int (nI d8)]) (B' := 2000 * (90 - (k + 1)) + 10) C LX d_L_law_108 ok_RL_146 (fun l hl => lawm_step hl hd6 hd7 hd8 hP (by omega)) rfl (rest := []) rfl (Nat.le_of_ble_eq_true rfl) ⟨by decide, Nat.le_of_ble_eq_true rfl⟩ ⟨(show 2000 * (90 - (k + 1)) + 10 + 2000 ≤ 2000 * (90 - (k + 1)) + 2010 by omega), Nat.le_of_ble_eq_true rfl⟩ (fun v9 g9 f9 e9 => ?_)
                  obtain ⟨rfl, eS⟩ := e9
                  show VP G x ad g9 f9 room_1 (2000 * (90 - (k + 1)) + 10) 111 [(5, .int (nI k)), (4, .int (nI N)), (3, .int (bI true)), (2, .ref (ad 101 0)), (1, .ref (ad 0 0)), (0, .ref b)] [.int (bI true)]
                  refine p_istore_n C d_L_law_111 (lv' := [(3, .int (bI true)), (5, .int (nI k)), (4, .int (nI N)), (2, .ref (ad 101 0)), (1, .ref (ad 0 0)), (0, .ref b)]) (by decide) rfl ?_
                  refine pn_iinc C d_L_law_112 (lv' := [(5, .int (nI (k + 1))), (3, .int (bI true)), (4, .int (nI N)), (2, .ref (ad 101 0)), (1, .ref (ad 0 0)), (0, .ref b)]) 1 rfl (nI_inc _ rfl) (by decide) rfl ?_
                  refine p_goto C d_L_law_115 (tgt := 67) rfl ?_
                  refine p_lv (lv' := [(5, .int (nI (k + 1))), (4, .int (nI N)), (3, .int (bI true)), (2, .ref (ad 101 0)), (1, .ref (ad 0 0)), (0, .ref b)]) [0, 2, 1, 3, 4, 5] rfl ?_
                  exact ih_67 (k + 1) g9 f9 (by omega) (eS) (by omega)
          refine p_B (B' := 2000 * (90 - 0) + 10) (by omega) ?_
          exact loop_67 _ 0 g3 (fun _ => 0) (by omega) (pI_eqv (pI_eqv (pI_eqv pI_cz e1) e2) e3) (Nat.lt_succ_self _)
        refine p_aload_n C d_L_law_44 3 rfl ?_
        refine p_slen C SX d_L_law_45 ?_
        refine p_iconst C d_L_law_46 (v := (nI 3)) rfl ?_
        refine pn_idiv C d_L_law_47 (by omega) (by omega) (by omega) ?_
        refine p_bipush C d_L_law_48 (v := (nI 90)) rfl ?_
        refine pn_icmp_le C d_L_law_50 (tgt := 58) rfl (by omega) (by omega) (fun c_50 => ?_) (fun c_50 => ?_)
        · skip
          refine p_aload_n C d_L_law_58 3 rfl ?_
          refine p_slen C SX d_L_law_59 ?_
          refine p_iconst C d_L_law_60 (v := (nI 3)) rfl ?_
          refine pn_idiv C d_L_law_61 (by omega) (by omega) (by omega) ?_
          refine p_B (B' := 180010) (by omega) ?_
          exact join_62 (L / 3) (by omega)
        · skip
          refine p_bipush C d_L_law_53 (v := (nI 90)) rfl ?_
          refine p_goto C d_L_law_55 (tgt := 62) rfl ?_
          refine p_B (B' := 180010) (by omega) ?_
          exact join_62 90 (by omega)
theorem nw_RL_11 : nwOk RL 11 5 [.null, .int (nI 0), .null, .int (nI 0), .null, .int (nI 0), .null, .null, .null] 9 := ⟨_, _, tyX6, rfl, cw_5, tyX6_ok, tw_15, tw_16, tw_1, by decide +kernel⟩
set_option maxHeartbeats 4000000 in
set_option maxRecDepth 100000 in
theorem law_entry {G : eG} {x : CX} {b L : Nat} {xs : Nat → Int32} (C : cxOk G RL cL_law room_1 6 x) (SX : cxS G b L xs x) (LX : pX x) (hL : L ≤ 260) (E : ∀ n1 n2 h lv, n1 ≤ 751175 → n2 ≤ 6848174 → VV G x n1 n2 h 144 lv []) : VV G x 0 0 (fun _ => none) 0 [(0, .ref b)] [] := by
  refine r_new C d_L_law_0 nw_RL_11 (show 0 + 1 ≤ 751175 by omega) (show 0 + 9 ≤ 6848174 by omega) (fun a ha _ => ?_)
  refine r_dup C d_L_law_3 rfl ?_
  refine r_callI C d_L_law_4 ok_RL_141 (fun l _ => l_X6init (a := a) _ (hle.new ha) (nwl_nil.cons cel_nil hle_rf ha) (cel_nil.cons ha)) (As := []) rfl (rest := [.ref a]) rfl (Nat.le_of_ble_eq_true rfl) ⟨⟨by decide, by decide⟩, (show 0 + 1 + 34 ≤ 751175 by omega), (show 0 + 9 + 1111 ≤ 6848174 by omega)⟩ (fun v9 h1 e9 => ?_)
  obtain ⟨L9, ⟨rfl, qq, hqa, rfl⟩, h01, w9, c9⟩ := e9
  have co1 := cn_co w9 c9
  clear w9 c9 h01
  have ha0 : adN qq 0 0 = a := hqa
  show VV G x 35 1120 h1 7 [(0, .ref b)] [.ref a]
  refine r_astore_n C d_L_law_7 (lv' := [(1, .ref a), (0, .ref b)]) (by decide) rfl ?_
  refine r_bipush C d_L_law_8 (v := nI 21) rfl ?_
  refine r_newI C d_L_law_10 tw_45 (by decide) (show 35 + 1 ≤ 751175 by omega) (show 1120 + 21 ≤ 6848174 by omega) (fun o ho _ => ?_)
  refine r_astore_n C d_L_law_12 (lv' := [(2, .ref o), (1, .ref a), (0, .ref b)]) (by decide) rfl ?_
  have t := law_body (ad := adP o (adN qq)) C SX LX hL E _ 36 1141 (pw_cz co1 ho) (show 36 + 180020 ≤ 751175 by omega) (show 1141 + 8 * 180020 ≤ 6848174 by omega)
  have e2 : adP o (adN qq) 0 0 = a := ha0
  have e3 : adP o (adN qq) 101 0 = o := rfl
  rw [e2, e3] at t
  exact t
