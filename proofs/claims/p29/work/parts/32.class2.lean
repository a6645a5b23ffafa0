theorem tw_51 : (Jvm.Cond.fieldLink "Corpusline$Side" (9 : Nat) "Corpusline$Side" "count" "I") ∈ TB := tb_of 51 (by decide +kernel) rfl
theorem tw_53 : (Jvm.Cond.fieldLink "Corpusline$Side" (15 : Nat) "Corpusline$Side" "isSentenceEnded" "Z") ∈ TB := tb_of 53 (by decide +kernel) rfl
theorem tw_55 : (Jvm.Cond.fieldLink "Corpusline$Side" (19 : Nat) "Corpusline$Side" "isTextEnded" "Z") ∈ TB := tb_of 55 (by decide +kernel) rfl
theorem tw_57 : (Jvm.Cond.fieldLink "Corpusline$Side" (22 : Nat) "Corpusline$Side" "values" "[I") ∈ TB := tb_of 57 (by decide +kernel) rfl
theorem tw_58 : (Jvm.Cond.fieldLink "Corpusline$Side" (26 : Nat) "Corpusline$Side" "sentences" "[I") ∈ TB := tb_of 58 (by decide +kernel) rfl
theorem tw_60 : (Jvm.Cond.fieldLink "Corpusline$Side" (29 : Nat) "Corpusline$Side" "texts" "[I") ∈ TB := tb_of 60 (by decide +kernel) rfl
theorem fd_RX3_9 : fdOk RX3 9 2 0 := ⟨_, _, _, rfl, by decide, cw_2, tw_51, rfl⟩
theorem fd_RX3_15 : fdOk RX3 15 2 1 := ⟨_, _, _, rfl, by decide, cw_2, tw_53, rfl⟩
theorem fd_RX3_19 : fdOk RX3 19 2 2 := ⟨_, _, _, rfl, by decide, cw_2, tw_55, rfl⟩
theorem fd_RX3_22 : fdOk RX3 22 2 3 := ⟨_, _, _, rfl, by decide, cw_2, tw_57, rfl⟩
theorem fd_RX3_26 : fdOk RX3 26 2 4 := ⟨_, _, _, rfl, by decide, cw_2, tw_58, rfl⟩
theorem fd_RX3_29 : fdOk RX3 29 2 5 := ⟨_, _, _, rfl, by decide, cw_2, tw_60, rfl⟩
theorem pf_RX3_9 : pfOk RX3 9 2 0 .int false := ⟨_, _, _, tyX3, rfl, by decide, cw_2, tw_51, rfl, tyX3_ok, nmX3, rfl, by decide +kernel⟩
theorem pf_RX3_15 : pfOk RX3 15 2 1 .boolean false := ⟨_, _, _, tyX3, rfl, by decide, cw_2, tw_53, rfl, tyX3_ok, nmX3, rfl, by decide +kernel⟩
theorem pf_RX3_19 : pfOk RX3 19 2 2 .boolean false := ⟨_, _, _, tyX3, rfl, by decide, cw_2, tw_55, rfl, tyX3_ok, nmX3, rfl, by decide +kernel⟩
theorem uN_same {S : mS} {k i v : Nat} (h : mN S k i = v) : uN S k i v = S := mS_ext (fun _ => rfl) (fun j b => by
  rw [mN_uN]; split
  · rename_i c; rw [c.1, c.2, h]
  · rfl) (fun _ _ => rfl) (fun _ _ => rfl)
theorem bN_0 {b : Bool} (h : b = false) : b.toNat = 0 := by rw [h]; rfl
theorem bN_1 {b : Bool} (h : b = true) : b.toNat = 1 := by rw [h]; rfl
/-- a sentence of a side -/
def isSen (g : mS) (s : Nat) (v : Int32) : Bool := inI v (nI 0) (nI (mSents g s) - nI 1)
theorem isSen_0 {g : mS} {s : Nat} {v : Int32} (h : mN g 1 s = 0) : isSen g s v = false := by
  cases e : isSen g s v with
  | false => rfl
  | true =>
    have h1 : mSents g s = 0 := by unfold mSents; rw [if_pos h]
    unfold isSen at e
    rw [h1] at e
    obtain ⟨-, c⟩ := inI_of (m := 0) (by omega) e
    omega
theorem isSen_r {g : mS} {s : Nat} {v : Int32} (h : 0 < mN g 1 s) : isSen g s v = inI v (nI 0) (nI (mN g 3 (40 * s + (mN g 1 s - 1)))) := by
  unfold isSen mSents
  rw [if_neg (by omega), pk_sub (by omega), Nat.add_sub_cancel, show 40 * s + mN g 1 s - 1 = 40 * s + (mN g 1 s - 1) by omega]
theorem isSen_of {g : mS} (I : mInv g) {s : Nat} (hs : s < 2) {v : Int32} (h : isSen g s v = true) : v = nI (tn v) ∧ tn v < mSents g s ∧ tn v < 40 := by
  have := mSents_le I hs
  obtain ⟨a, b⟩ := inI_of (m := mSents g s) (by omega) h
  exact ⟨a, b, by omega⟩
/-- whether a place lies within a bound of another one -/
def inW (g : mS) (s k e b : Nat) : Bool := decide (e < mN g 1 s) && (if b = 1 then decide (mN g 3 (40 * s + k) = mN g 3 (40 * s + e)) else if b = 2 then decide (mN g 4 (40 * s + k) = mN g 4 (40 * s + e)) else true)
/-- a token at the end of a side -/
def tApp (g : mS) (s w k r : Nat) : mS := uN (uB (uB (uN (uN (uN (uN (uN g 2 (3 * (40 * s + mN g 1 s) + 0) w) 2 (3 * (40 * s + mN g 1 s) + 1) k) 2 (3 * (40 * s + mN g 1 s) + 2) r) 3 (40 * s + mN g 1 s) (if mN g 1 s = 0 then 0 else mN g 3 (40 * s + mN g 1 s - 1) + (mB g 5 s).toNat)) 4 (40 * s + mN g 1 s) (if mN g 1 s = 0 then 0 else mN g 4 (40 * s + mN g 1 s - 1) + (mB g 6 s).toNat)) 5 s false) 6 s false) 1 s (mN g 1 s + 1)
def dl_X3_valueAt : List (Nat × Instr × Nat) := [(0, .aload_n 0, 1), (1, .getfield 22, 3), (4, .iload_n 1, 1), (5, .iconst 3, 1), (6, .imul, 1), (7, .iload_n 2, 1), (8, .iadd, 1), (9, .iaload, 1), (10, .ireturn, 1)]
theorem dc_X3_valueAt : dnL cX3_valueAt dl_X3_valueAt = true := by decide +kernel
theorem d_X3_valueAt_0 : dn cX3_valueAt 0 (.aload_n 0) 1 1 := dnAt dc_X3_valueAt 0 rfl rfl
theorem d_X3_valueAt_1 : dn cX3_valueAt 1 (.getfield 22) 3 4 := dnAt dc_X3_valueAt 1 rfl rfl
theorem d_X3_valueAt_4 : dn cX3_valueAt 4 (.iload_n 1) 1 5 := dnAt dc_X3_valueAt 2 rfl rfl
theorem d_X3_valueAt_5 : dn cX3_valueAt 5 (.iconst 3) 1 6 := dnAt dc_X3_valueAt 3 rfl rfl
theorem d_X3_valueAt_6 : dn cX3_valueAt 6 (.imul) 1 7 := dnAt dc_X3_valueAt 4 rfl rfl
theorem d_X3_valueAt_7 : dn cX3_valueAt 7 (.iload_n 2) 1 8 := dnAt dc_X3_valueAt 5 rfl rfl
theorem d_X3_valueAt_8 : dn cX3_valueAt 8 (.iadd) 1 9 := dnAt dc_X3_valueAt 6 rfl rfl
theorem d_X3_valueAt_9 : dn cX3_valueAt 9 (.iaload) 1 10 := dnAt dc_X3_valueAt 7 rfl rfl
theorem d_X3_valueAt_10 : dn cX3_valueAt 10 (.ireturn) 1 11 := dnAt dc_X3_valueAt 8 rfl rfl
set_option maxHeartbeats 4000000 in
set_option maxRecDepth 100000 in
theorem k_valueAt {l : Launch} {G : eG} {ad : Nat → Nat → Nat} {h : hp} {g : mS} {s p a : Nat} (hm : co G ad g h) (hs : s < 2) (hp : p < 40) (ha : a < 3) : kC l G ad h yX3_valueAt cX3_valueAt 3 (Option.some Jvm.ClassFile.FieldType.int) { frames := 0, cells := 0, slots := 0, locals := 0 } [.ref (ad 10 s), .int (nI p), .int (nI a)] (fun v9 g9 _ => v9 = some (.int (nI (mVal g s p a))) ∧ g9 = g) := by
  refine kC.of hm (by decide) (Nat.le_of_ble_eq_true rfl) ?_
  intro x C A TY
  show VC G x ad h g 0 0 0 [(0, .ref (ad 10 s)), (1, .int (nI p)), (2, .int (nI a))] []
  refine c_aload_n C d_X3_valueAt_0 0 rfl ?_
  refine c_get C d_X3_valueAt_1 fd_RX3_22 (k := 10) (i' := s) (decide_eq_true (by omega)) rfl (v := .ref (ad 11 s)) rfl ?_
  refine c_iload_n C d_X3_valueAt_4 1 rfl ?_
  refine c_iconst C d_X3_valueAt_5 (v := (nI 3)) rfl ?_
  refine cn_imul C d_X3_valueAt_6 ?_
  refine c_iload_n C d_X3_valueAt_7 2 rfl ?_
  refine cn_iadd C d_X3_valueAt_8 ?_
  refine c_ald C d_X3_valueAt_9 (k := 11) (i := s) (decide_eq_true (by omega)) rfl (by show _ < 120; omega) ?_
  refine c_st (st' := [.int (nI (mVal g s p a))]) (by rw [mVal, show 120 * s + (p * 3 + a) = 3 * (40 * s + p) + a by omega]) ?_
  exact k_iret C A cfr_rf TY d_X3_valueAt_10 rfl (Nat.le_of_ble_eq_true rfl) (Nat.le_of_ble_eq_true rfl) (fun h9 F9 => ⟨rfl, rfl⟩)
def dl_X3_isSentence : List (Nat × Instr × Nat) := [(0, .iload_n 1, 1), (1, .ifCond .lt 29, 3), (4, .aload_n 0, 1), (5, .getfield 9, 3), (8, .ifCond .le 22, 3), (11, .iload_n 1, 1), (12, .aload_n 0, 1), (13, .getfield 26, 3), (16, .aload_n 0, 1), (17, .getfield 9, 3), (20, .iconst 1, 1), (21, .isub, 1), (22, .iaload, 1), (23, .if_icmp .gt 7, 3), (26, .iconst 1, 1), (27, .goto 4, 3), (30, .iconst 0, 1), (31, .ireturn, 1)]
theorem dc_X3_isSentence : dnL cX3_isSentence dl_X3_isSentence = true := by decide +kernel
theorem d_X3_isSentence_0 : dn cX3_isSentence 0 (.iload_n 1) 1 1 := dnAt dc_X3_isSentence 0 rfl rfl
theorem d_X3_isSentence_1 : dn cX3_isSentence 1 (.ifCond .lt 29) 3 4 := dnAt dc_X3_isSentence 1 rfl rfl
theorem d_X3_isSentence_4 : dn cX3_isSentence 4 (.aload_n 0) 1 5 := dnAt dc_X3_isSentence 2 rfl rfl
theorem d_X3_isSentence_5 : dn cX3_isSentence 5 (.getfield 9) 3 8 := dnAt dc_X3_isSentence 3 rfl rfl
theorem d_X3_isSentence_8 : dn cX3_isSentence 8 (.ifCond .le 22) 3 11 := dnAt dc_X3_isSentence 4 rfl rfl
theorem d_X3_isSentence_11 : dn cX3_isSentence 11 (.iload_n 1) 1 12 := dnAt dc_X3_isSentence 5 rfl rfl
theorem d_X3_isSentence_12 : dn cX3_isSentence 12 (.aload_n 0) 1 13 := dnAt dc_X3_isSentence 6 rfl rfl
theorem d_X3_isSentence_13 : dn cX3_isSentence 13 (.getfield 26) 3 16 := dnAt dc_X3_isSentence 7 rfl rfl
theorem d_X3_isSentence_16 : dn cX3_isSentence 16 (.aload_n 0) 1 17 := dnAt dc_X3_isSentence 8 rfl rfl
theorem d_X3_isSentence_17 : dn cX3_isSentence 17 (.getfield 9) 3 20 := dnAt dc_X3_isSentence 9 rfl rfl
theorem d_X3_isSentence_20 : dn cX3_isSentence 20 (.iconst 1) 1 21 := dnAt dc_X3_isSentence 10 rfl rfl
theorem d_X3_isSentence_21 : dn cX3_isSentence 21 (.isub) 1 22 := dnAt dc_X3_isSentence 11 rfl rfl
theorem d_X3_isSentence_22 : dn cX3_isSentence 22 (.iaload) 1 23 := dnAt dc_X3_isSentence 12 rfl rfl
theorem d_X3_isSentence_23 : dn cX3_isSentence 23 (.if_icmp .gt 7) 3 26 := dnAt dc_X3_isSentence 13 rfl rfl
theorem d_X3_isSentence_26 : dn cX3_isSentence 26 (.iconst 1) 1 27 := dnAt dc_X3_isSentence 14 rfl rfl
theorem d_X3_isSentence_27 : dn cX3_isSentence 27 (.goto 4) 3 30 := dnAt dc_X3_isSentence 15 rfl rfl
theorem d_X3_isSentence_30 : dn cX3_isSentence 30 (.iconst 0) 1 31 := dnAt dc_X3_isSentence 16 rfl rfl
theorem d_X3_isSentence_31 : dn cX3_isSentence 31 (.ireturn) 1 32 := dnAt dc_X3_isSentence 17 rfl rfl
set_option maxHeartbeats 4000000 in
set_option maxRecDepth 100000 in
theorem k_isSentence {l : Launch} {G : eG} {ad : Nat → Nat → Nat} {h : hp} {g : mS} {s : Nat} {v : Int32} (hm : co G ad g h) (I : mInv g) (hs : s < 2) : kC l G ad h yX3_isSentence cX3_isSentence 2 (Option.some Jvm.ClassFile.FieldType.boolean) { frames := 0, cells := 0, slots := 0, locals := 0 } [.ref (ad 10 s), .int v] (fun v9 g9 _ => v9 = some (.int (bI (isSen g s v))) ∧ g9 = g) := by
  refine kC.of hm (by decide) (Nat.le_of_ble_eq_true rfl) ?_
  intro x C A TY
  show VC G x ad h g 0 0 0 [(0, .ref (ad 10 s)), (1, .int v)] []
  have hc := I.1 s hs
  refine c_iload_n C d_X3_isSentence_0 1 rfl ?_
  have join_31 : VC G x ad h g 0 0 31 [(0, .ref (ad 10 s)), (1, .int v)] [.int (bI (isSen g s v))] := by
    exact k_iret C A cfr_rf TY d_X3_isSentence_31 (bI_nar _) (Nat.le_of_ble_eq_true rfl) (Nat.le_of_ble_eq_true rfl) (fun h9 F9 => ⟨rfl, rfl⟩)
  refine c_if_lt C d_X3_isSentence_1 (tgt := 30) rfl (fun c_1 => ?_) (fun c_1 => ?_)
  · skip
    refine c_iconst C d_X3_isSentence_30 (v := (bI false)) rfl ?_
    refine c_st (st' := [.int (bI (isSen g s v))]) (congrArg (fun z => [Value.int (bI z)]) (show false = _ from (inI_F (Or.inl c_1)).symm)) ?_
    exact join_31  
  · skip
    refine c_aload_n C d_X3_isSentence_4 0 rfl ?_
    refine c_get C d_X3_isSentence_5 fd_RX3_9 (k := 10) (i' := s) (decide_eq_true (by omega)) rfl (v := .int (nI (mN g 1 s))) rfl ?_
    refine cn_if_le C d_X3_isSentence_8 (tgt := 30) rfl (by omega) (fun c_8 => ?_) (fun c_8 => ?_)
    · skip
      refine c_iconst C d_X3_isSentence_30 (v := (bI false)) rfl ?_
      refine c_st (st' := [.int (bI (isSen g s v))]) (congrArg (fun z => [Value.int (bI z)]) (isSen_0 (by omega)).symm) ?_
      exact join_31  
    · skip
      refine c_iload_n C d_X3_isSentence_11 1 rfl ?_
      refine c_aload_n C d_X3_isSentence_12 0 rfl ?_
      refine c_get C d_X3_isSentence_13 fd_RX3_26 (k := 10) (i' := s) (decide_eq_true (by omega)) rfl (v := .ref (ad 12 s)) rfl ?_
      refine c_aload_n C d_X3_isSentence_16 0 rfl ?_
      refine c_get C d_X3_isSentence_17 fd_RX3_9 (k := 10) (i' := s) (decide_eq_true (by omega)) rfl (v := .int (nI (mN g 1 s))) rfl ?_
      refine c_iconst C d_X3_isSentence_20 (v := (nI 1)) rfl ?_
      refine cn_isub C d_X3_isSentence_21 (by omega) ?_
      refine c_ald C d_X3_isSentence_22 (k := 12) (i := s) (decide_eq_true (by omega)) rfl (by show _ < 40; omega) ?_
      refine c_icmp_gt C d_X3_isSentence_23 (tgt := 30) rfl (fun c_23 => ?_) (fun c_23 => ?_)
      · skip
        refine c_iconst C d_X3_isSentence_30 (v := (bI false)) rfl ?_
        refine c_st (st' := [.int (bI (isSen g s v))]) (congrArg (fun z => [Value.int (bI z)]) ((isSen_r c_8).trans (inI_F (Or.inr c_23))).symm) ?_
        exact join_31  
      · skip
        refine c_iconst C d_X3_isSentence_26 (v := (bI true)) rfl ?_
        refine c_goto C d_X3_isSentence_27 (tgt := 31) rfl ?_
        refine c_st (st' := [.int (bI (isSen g s v))]) (congrArg (fun z => [Value.int (bI z)]) ((isSen_r c_8).trans (inI_T c_1 c_23)).symm) ?_
        exact join_31  
def dl_X3_isWithin : List (Nat × Instr × Nat) := [(0, .iload_n 2, 1), (1, .aload_n 0, 1), (2, .getfield 9, 3), (5, .if_icmp .lt 5, 3), (8, .iconst 0, 1), (9, .ireturn, 1), (10, .iload_n 3, 1), (11, .iconst 1, 1), (12, .if_icmp .ne 24, 3), (15, .aload_n 0, 1), (16, .getfield 26, 3), (19, .iload_n 1, 1), (20, .iaload, 1), (21, .aload_n 0, 1), (22, .getfield 26, 3), (25, .iload_n 2, 1), (26, .iaload, 1), (27, .if_icmp .ne 7, 3), (30, .iconst 1, 1), (31, .goto 4, 3), (34, .iconst 0, 1), (35, .ireturn, 1), (36, .iload_n 3, 1), (37, .iconst 2, 1), (38, .if_icmp .ne 18, 3), (41, .aload_n 0, 1), (42, .getfield 29, 3), (45, .iload_n 1, 1), (46, .iaload, 1), (47, .aload_n 0, 1), (48, .getfield 29, 3), (51, .iload_n 2, 1), (52, .iaload, 1), (53, .if_icmp .ne 7, 3), (56, .iconst 1, 1), (57, .goto 4, 3), (60, .iconst 0, 1), (61, .ireturn, 1)]
theorem dc_X3_isWithin : dnL cX3_isWithin dl_X3_isWithin = true := by decide +kernel
theorem d_X3_isWithin_0 : dn cX3_isWithin 0 (.iload_n 2) 1 1 := dnAt dc_X3_isWithin 0 rfl rfl
theorem d_X3_isWithin_1 : dn cX3_isWithin 1 (.aload_n 0) 1 2 := dnAt dc_X3_isWithin 1 rfl rfl
theorem d_X3_isWithin_2 : dn cX3_isWithin 2 (.getfield 9) 3 5 := dnAt dc_X3_isWithin 2 rfl rfl
theorem d_X3_isWithin_5 : dn cX3_isWithin 5 (.if_icmp .lt 5) 3 8 := dnAt dc_X3_isWithin 3 rfl rfl
theorem d_X3_isWithin_8 : dn cX3_isWithin 8 (.iconst 0) 1 9 := dnAt dc_X3_isWithin 4 rfl rfl
theorem d_X3_isWithin_9 : dn cX3_isWithin 9 (.ireturn) 1 10 := dnAt dc_X3_isWithin 5 rfl rfl
theorem d_X3_isWithin_10 : dn cX3_isWithin 10 (.iload_n 3) 1 11 := dnAt dc_X3_isWithin 6 rfl rfl
theorem d_X3_isWithin_11 : dn cX3_isWithin 11 (.iconst 1) 1 12 := dnAt dc_X3_isWithin 7 rfl rfl
theorem d_X3_isWithin_12 : dn cX3_isWithin 12 (.if_icmp .ne 24) 3 15 := dnAt dc_X3_isWithin 8 rfl rfl
theorem d_X3_isWithin_15 : dn cX3_isWithin 15 (.aload_n 0) 1 16 := dnAt dc_X3_isWithin 9 rfl rfl
theorem d_X3_isWithin_16 : dn cX3_isWithin 16 (.getfield 26) 3 19 := dnAt dc_X3_isWithin 10 rfl rfl
theorem d_X3_isWithin_19 : dn cX3_isWithin 19 (.iload_n 1) 1 20 := dnAt dc_X3_isWithin 11 rfl rfl
theorem d_X3_isWithin_20 : dn cX3_isWithin 20 (.iaload) 1 21 := dnAt dc_X3_isWithin 12 rfl rfl
theorem d_X3_isWithin_21 : dn cX3_isWithin 21 (.aload_n 0) 1 22 := dnAt dc_X3_isWithin 13 rfl rfl
theorem d_X3_isWithin_22 : dn cX3_isWithin 22 (.getfield 26) 3 25 := dnAt dc_X3_isWithin 14 rfl rfl
theorem d_X3_isWithin_25 : dn cX3_isWithin 25 (.iload_n 2) 1 26 := dnAt dc_X3_isWithin 15 rfl rfl
theorem d_X3_isWithin_26 : dn cX3_isWithin 26 (.iaload) 1 27 := dnAt dc_X3_isWithin 16 rfl rfl
theorem d_X3_isWithin_27 : dn cX3_isWithin 27 (.if_icmp .ne 7) 3 30 := dnAt dc_X3_isWithin 17 rfl rfl
theorem d_X3_isWithin_30 : dn cX3_isWithin 30 (.iconst 1) 1 31 := dnAt dc_X3_isWithin 18 rfl rfl
theorem d_X3_isWithin_31 : dn cX3_isWithin 31 (.goto 4) 3 34 := dnAt dc_X3_isWithin 19 rfl rfl
theorem d_X3_isWithin_34 : dn cX3_isWithin 34 (.iconst 0) 1 35 := dnAt dc_X3_isWithin 20 rfl rfl
theorem d_X3_isWithin_35 : dn cX3_isWithin 35 (.ireturn) 1 36 := dnAt dc_X3_isWithin 21 rfl rfl
theorem d_X3_isWithin_36 : dn cX3_isWithin 36 (.iload_n 3) 1 37 := dnAt dc_X3_isWithin 22 rfl rfl
theorem d_X3_isWithin_37 : dn cX3_isWithin 37 (.iconst 2) 1 38 := dnAt dc_X3_isWithin 23 rfl rfl
theorem d_X3_isWithin_38 : dn cX3_isWithin 38 (.if_icmp .ne 18) 3 41 := dnAt dc_X3_isWithin 24 rfl rfl
theorem d_X3_isWithin_41 : dn cX3_isWithin 41 (.aload_n 0) 1 42 := dnAt dc_X3_isWithin 25 rfl rfl
theorem d_X3_isWithin_42 : dn cX3_isWithin 42 (.getfield 29) 3 45 := dnAt dc_X3_isWithin 26 rfl rfl
theorem d_X3_isWithin_45 : dn cX3_isWithin 45 (.iload_n 1) 1 46 := dnAt dc_X3_isWithin 27 rfl rfl
theorem d_X3_isWithin_46 : dn cX3_isWithin 46 (.iaload) 1 47 := dnAt dc_X3_isWithin 28 rfl rfl
theorem d_X3_isWithin_47 : dn cX3_isWithin 47 (.aload_n 0) 1 48 := dnAt dc_X3_isWithin 29 rfl rfl
theorem d_X3_isWithin_48 : dn cX3_isWithin 48 (.getfield 29) 3 51 := dnAt dc_X3_isWithin 30 rfl rfl
theorem d_X3_isWithin_51 : dn cX3_isWithin 51 (.iload_n 2) 1 52 := dnAt dc_X3_isWithin 31 rfl rfl
theorem d_X3_isWithin_52 : dn cX3_isWithin 52 (.iaload) 1 53 := dnAt dc_X3_isWithin 32 rfl rfl
theorem d_X3_isWithin_53 : dn cX3_isWithin 53 (.if_icmp .ne 7) 3 56 := dnAt dc_X3_isWithin 33 rfl rfl
theorem d_X3_isWithin_56 : dn cX3_isWithin 56 (.iconst 1) 1 57 := dnAt dc_X3_isWithin 34 rfl rfl
theorem d_X3_isWithin_57 : dn cX3_isWithin 57 (.goto 4) 3 60 := dnAt dc_X3_isWithin 35 rfl rfl
theorem d_X3_isWithin_60 : dn cX3_isWithin 60 (.iconst 0) 1 61 := dnAt dc_X3_isWithin 36 rfl rfl
theorem d_X3_isWithin_61 : dn cX3_isWithin 61 (.ireturn) 1 62 := dnAt dc_X3_isWithin 37 rfl rfl
set_option maxHeartbeats 4000000 in
set_option maxRecDepth 100000 in
theorem k_isWithin {l : Launch} {G : eG} {ad : Nat → Nat → Nat} {h : hp} {g : mS} {s k e b : Nat} (hm : co G ad g h) (I : mInv g) (hs : s < 2) (hk : k < 40) (he : e < 1000) (hb : b < 3) : kC l G ad h yX3_isWithin cX3_isWithin 4 (Option.some Jvm.ClassFile.FieldType.boolean) { frames := 0, cells := 0, slots := 0, locals := 0 } [.ref (ad 10 s), .int (nI k), .int (nI e), .int (nI b)] (fun v9 g9 _ => v9 = some (.int (bI (inW g s k e b))) ∧ g9 = g) := by
  refine kC.of hm (by decide) (Nat.le_of_ble_eq_true rfl) ?_
  intro x C A TY
  show VC G x ad h g 0 0 0 [(0, .ref (ad 10 s)), (1, .int (nI k)), (2, .int (nI e)), (3, .int (nI b))] []
  have hc := I.1 s hs
  have hsl := fun j (hj : j < 40) => I.2.2.1 (40 * s + j) (by omega)
  have htl := fun j (hj : j < 40) => I.2.2.2.1 (40 * s + j) (by omega)
  refine c_iload_n C d_X3_isWithin_0 2 rfl ?_
  refine c_aload_n C d_X3_isWithin_1 0 rfl ?_
  refine c_get C d_X3_isWithin_2 fd_RX3_9 (k := 10) (i' := s) (decide_eq_true (by omega)) rfl (v := .int (nI (mN g 1 s))) rfl ?_
  refine cn_icmp_lt C d_X3_isWithin_5 (tgt := 10) rfl (by omega) (by omega) (fun c_5 => ?_) (fun c_5 => ?_)
  · skip
    refine c_iload_n C d_X3_isWithin_10 3 rfl ?_
    refine c_iconst C d_X3_isWithin_11 (v := (nI 1)) rfl ?_
    refine cn_icmp_ne C d_X3_isWithin_12 (tgt := 36) rfl (by omega) (by omega) (fun c_12 => ?_) (fun c_12 => ?_)
    · skip
      refine c_iload_n C d_X3_isWithin_36 3 rfl ?_
      refine c_iconst C d_X3_isWithin_37 (v := (nI 2)) rfl ?_
      have join_61 : VC G x ad h g 0 0 61 [(0, .ref (ad 10 s)), (1, .int (nI k)), (2, .int (nI e)), (3, .int (nI b))] [.int (bI (inW g s k e b))] := by
        exact k_iret C A cfr_rf TY d_X3_isWithin_61 (bI_nar _) (Nat.le_of_ble_eq_true rfl) (Nat.le_of_ble_eq_true rfl) (fun h9 F9 => ⟨rfl, rfl⟩)
      refine cn_icmp_ne C d_X3_isWithin_38 (tgt := 56) rfl (by omega) (by omega) (fun c_38 => ?_) (fun c_38 => ?_)
      · skip
        refine c_iconst C d_X3_isWithin_56 (v := (bI true)) rfl ?_
        refine c_goto C d_X3_isWithin_57 (tgt := 61) rfl ?_
        refine c_st (st' := [.int (bI (inW g s k e b))]) (congrArg (fun z => [Value.int (bI z)]) (by simp [inW, c_5, c_12, c_38])) ?_
        exact join_61  
      · skip
        refine c_aload_n C d_X3_isWithin_41 0 rfl ?_
        refine c_get C d_X3_isWithin_42 fd_RX3_29 (k := 10) (i' := s) (decide_eq_true (by omega)) rfl (v := .ref (ad 13 s)) rfl ?_
        refine c_iload_n C d_X3_isWithin_45 1 rfl ?_
        refine c_ald C d_X3_isWithin_46 (k := 13) (i := s) (decide_eq_true (by omega)) rfl (by show _ < 40; omega) ?_
        refine c_aload_n C d_X3_isWithin_47 0 rfl ?_
        refine c_get C d_X3_isWithin_48 fd_RX3_29 (k := 10) (i' := s) (decide_eq_true (by omega)) rfl (v := .ref (ad 13 s)) rfl ?_
        refine c_iload_n C d_X3_isWithin_51 2 rfl ?_
        refine c_ald C d_X3_isWithin_52 (k := 13) (i := s) (decide_eq_true (by omega)) rfl (by show _ < 40; omega) ?_
        refine cn_icmp_ne C d_X3_isWithin_53 (tgt := 60) rfl (by have := htl k hk; omega) (by have := htl e (by omega); omega) (fun c_53 => ?_) (fun c_53 => ?_)
        · skip
          refine c_iconst C d_X3_isWithin_60 (v := (bI false)) rfl ?_
          refine c_st (st' := [.int (bI (inW g s k e b))]) (congrArg (fun z => [Value.int (bI z)]) (by subst c_38; simp [inW, c_5, c_53])) ?_
          exact join_61  
        · skip
          refine c_iconst C d_X3_isWithin_56 (v := (bI true)) rfl ?_
          refine c_goto C d_X3_isWithin_57 (tgt := 61) rfl ?_
          refine c_st (st' := [.int (bI (inW g s k e b))]) (congrArg (fun z => [Value.int (bI z)]) (by subst c_38; simp [inW, c_5, c_53])) ?_
          exact join_61  
    · skip
      refine c_aload_n C d_X3_isWithin_15 0 rfl ?_
      refine c_get C d_X3_isWithin_16 fd_RX3_26 (k := 10) (i' := s) (decide_eq_true (by omega)) rfl (v := .ref (ad 12 s)) rfl ?_
      refine c_iload_n C d_X3_isWithin_19 1 rfl ?_
      refine c_ald C d_X3_isWithin_20 (k := 12) (i := s) (decide_eq_true (by omega)) rfl (by show _ < 40; omega) ?_
      refine c_aload_n C d_X3_isWithin_21 0 rfl ?_
      refine c_get C d_X3_isWithin_22 fd_RX3_26 (k := 10) (i' := s) (decide_eq_true (by omega)) rfl (v := .ref (ad 12 s)) rfl ?_
      refine c_iload_n C d_X3_isWithin_25 2 rfl ?_
      refine c_ald C d_X3_isWithin_26 (k := 12) (i := s) (decide_eq_true (by omega)) rfl (by show _ < 40; omega) ?_
      have join_35 : VC G x ad h g 0 0 35 [(0, .ref (ad 10 s)), (1, .int (nI k)), (2, .int (nI e)), (3, .int (nI b))] [.int (bI (inW g s k e b))] := by
        exact k_iret C A cfr_rf TY d_X3_isWithin_35 (bI_nar _) (Nat.le_of_ble_eq_true rfl) (Nat.le_of_ble_eq_true rfl) (fun h9 F9 => ⟨rfl, rfl⟩)
      refine cn_icmp_ne C d_X3_isWithin_27 (tgt := 34) rfl (by have := hsl k hk; omega) (by have := hsl e (by omega); omega) (fun c_27 => ?_) (fun c_27 => ?_)
      · skip
        refine c_iconst C d_X3_isWithin_34 (v := (bI false)) rfl ?_
        refine c_st (st' := [.int (bI (inW g s k e b))]) (congrArg (fun z => [Value.int (bI z)]) (by subst c_12; simp [inW, c_5, c_27])) ?_
        exact join_35  
      · skip
        refine c_iconst C d_X3_isWithin_30 (v := (bI true)) rfl ?_
        refine c_goto C d_X3_isWithin_31 (tgt := 35) rfl ?_
        refine c_st (st' := [.int (bI (inW g s k e b))]) (congrArg (fun z => [Value.int (bI z)]) (by subst c_12; simp [inW, c_5, c_27])) ?_
        exact join_35  
  · skip
    refine c_iconst C d_X3_isWithin_8 (v := (bI false)) rfl ?_
    refine c_st (st' := [.int (bI (inW g s k e b))]) (congrArg (fun z => [Value.int (bI z)]) (by rw [inW, decide_eq_false (by omega)]; rfl)) ?_
    exact k_iret C A cfr_rf TY d_X3_isWithin_9 (bI_nar _) (Nat.le_of_ble_eq_true rfl) (Nat.le_of_ble_eq_true rfl) (fun h9 F9 => ⟨rfl, rfl⟩)
def dl_X3_append : List (Nat × Instr × Nat) := [(0, .aload_n 0, 1), (1, .getfield 9, 3), (4, .istore 4, 2), (6, .aload_n 0, 1), (7, .getfield 22, 3), (10, .iload 4, 2), (12, .iconst 3, 1), (13, .imul, 1), (14, .iconst 0, 1), (15, .iadd, 1), (16, .iload_n 1, 1), (17, .iastore, 1), (18, .aload_n 0, 1), (19, .getfield 22, 3), (22, .iload 4, 2), (24, .iconst 3, 1), (25, .imul, 1), (26, .iconst 1, 1), (27, .iadd, 1), (28, .iload_n 2, 1), (29, .iastore, 1), (30, .aload_n 0, 1), (31, .getfield 22, 3), (34, .iload 4, 2), (36, .iconst 3, 1), (37, .imul, 1), (38, .iconst 2, 1), (39, .iadd, 1), (40, .iload_n 3, 1), (41, .iastore, 1), (42, .iload 4, 2), (44, .ifCond .le 61, 3), (47, .aload_n 0, 1), (48, .getfield 26, 3), (51, .iload 4, 2), (53, .aload_n 0, 1), (54, .getfield 26, 3), (57, .iload 4, 2), (59, .iconst 1, 1), (60, .isub, 1), (61, .iaload, 1), (62, .aload_n 0, 1), (63, .getfield 15, 3), (66, .ifCond .eq 7, 3), (69, .iconst 1, 1), (70, .goto 4, 3), (73, .iconst 0, 1), (74, .iadd, 1), (75, .iastore, 1), (76, .aload_n 0, 1), (77, .getfield 29, 3), (80, .iload 4, 2), (82, .aload_n 0, 1), (83, .getfield 29, 3), (86, .iload 4, 2), (88, .iconst 1, 1), (89, .isub, 1), (90, .iaload, 1), (91, .aload_n 0, 1), (92, .getfield 19, 3), (95, .ifCond .eq 7, 3), (98, .iconst 1, 1), (99, .goto 4, 3), (102, .iconst 0, 1), (103, .iadd, 1), (104, .iastore, 1), (105, .aload_n 0, 1), (106, .iconst 0, 1), (107, .putfield 15, 3), (110, .aload_n 0, 1), (111, .iconst 0, 1), (112, .putfield 19, 3), (115, .aload_n 0, 1), (116, .dup, 1), (117, .getfield 9, 3), (120, .iconst 1, 1), (121, .iadd, 1), (122, .putfield 9, 3), (125, .iload 4, 2), (127, .ireturn, 1)]
theorem dc_X3_append : dnL cX3_append dl_X3_append = true := by decide +kernel
theorem d_X3_append_0 : dn cX3_append 0 (.aload_n 0) 1 1 := dnAt dc_X3_append 0 rfl rfl
theorem d_X3_append_1 : dn cX3_append 1 (.getfield 9) 3 4 := dnAt dc_X3_append 1 rfl rfl
theorem d_X3_append_4 : dn cX3_append 4 (.istore 4) 2 6 := dnAt dc_X3_append 2 rfl rfl
theorem d_X3_append_6 : dn cX3_append 6 (.aload_n 0) 1 7 := dnAt dc_X3_append 3 rfl rfl
theorem d_X3_append_7 : dn cX3_append 7 (.getfield 22) 3 10 := dnAt dc_X3_append 4 rfl rfl
theorem d_X3_append_10 : dn cX3_append 10 (.iload 4) 2 12 := dnAt dc_X3_append 5 rfl rfl
theorem d_X3_append_12 : dn cX3_append 12 (.iconst 3) 1 13 := dnAt dc_X3_append 6 rfl rfl
theorem d_X3_append_13 : dn cX3_append 13 (.imul) 1 14 := dnAt dc_X3_append 7 rfl rfl
theorem d_X3_append_14 : dn cX3_append 14 (.iconst 0) 1 15 := dnAt dc_X3_append 8 rfl rfl
theorem d_X3_append_15 : dn cX3_append 15 (.iadd) 1 16 := dnAt dc_X3_append 9 rfl rfl
theorem d_X3_append_16 : dn cX3_append 16 (.iload_n 1) 1 17 := dnAt dc_X3_append 10 rfl rfl
theorem d_X3_append_17 : dn cX3_append 17 (.iastore) 1 18 := dnAt dc_X3_append 11 rfl rfl
theorem d_X3_append_18 : dn cX3_append 18 (.aload_n 0) 1 19 := dnAt dc_X3_append 12 rfl rfl
theorem d_X3_append_19 : dn cX3_append 19 (.getfield 22) 3 22 := dnAt dc_X3_append 13 rfl rfl
theorem d_X3_append_22 : dn cX3_append 22 (.iload 4) 2 24 := dnAt dc_X3_append 14 rfl rfl
theorem d_X3_append_24 : dn cX3_append 24 (.iconst 3) 1 25 := dnAt dc_X3_append 15 rfl rfl
theorem d_X3_append_25 : dn cX3_append 25 (.imul) 1 26 := dnAt dc_X3_append 16 rfl rfl
theorem d_X3_append_26 : dn cX3_append 26 (.iconst 1) 1 27 := dnAt dc_X3_append 17 rfl rfl
theorem d_X3_append_27 : dn cX3_append 27 (.iadd) 1 28 := dnAt dc_X3_append 18 rfl rfl
theorem d_X3_append_28 : dn cX3_append 28 (.iload_n 2) 1 29 := dnAt dc_X3_append 19 rfl rfl
theorem d_X3_append_29 : dn cX3_append 29 (.iastore) 1 30 := dnAt dc_X3_append 20 rfl rfl
theorem d_X3_append_30 : dn cX3_append 30 (.aload_n 0) 1 31 := dnAt dc_X3_append 21 rfl rfl
theorem d_X3_append_31 : dn cX3_append 31 (.getfield 22) 3 34 := dnAt dc_X3_append 22 rfl rfl
theorem d_X3_append_34 : dn cX3_append 34 (.iload 4) 2 36 := dnAt dc_X3_append 23 rfl rfl
theorem d_X3_append_36 : dn cX3_append 36 (.iconst 3) 1 37 := dnAt dc_X3_append 24 rfl rfl
theorem d_X3_append_37 : dn cX3_append 37 (.imul) 1 38 := dnAt dc_X3_append 25 rfl rfl
theorem d_X3_append_38 : dn cX3_append 38 (.iconst 2) 1 39 := dnAt dc_X3_append 26 rfl rfl
theorem d_X3_append_39 : dn cX3_append 39 (.iadd) 1 40 := dnAt dc_X3_append 27 rfl rfl
theorem d_X3_append_40 : dn cX3_append 40 (.iload_n 3) 1 41 := dnAt dc_X3_append 28 rfl rfl
theorem d_X3_append_41 : dn cX3_append 41 (.iastore) 1 42 := dnAt dc_X3_append 29 rfl rfl
theorem d_X3_append_42 : dn cX3_append 42 (.iload 4) 2 44 := dnAt dc_X3_append 30 rfl rfl
theorem d_X3_append_44 : dn cX3_append 44 (.ifCond .le 61) 3 47 := dnAt dc_X3_append 31 rfl rfl
theorem d_X3_append_47 : dn cX3_append 47 (.aload_n 0) 1 48 := dnAt dc_X3_append 32 rfl rfl
theorem d_X3_append_48 : dn cX3_append 48 (.getfield 26) 3 51 := dnAt dc_X3_append 33 rfl rfl
theorem d_X3_append_51 : dn cX3_append 51 (.iload 4) 2 53 := dnAt dc_X3_append 34 rfl rfl
theorem d_X3_append_53 : dn cX3_append 53 (.aload_n 0) 1 54 := dnAt dc_X3_append 35 rfl rfl
theorem d_X3_append_54 : dn cX3_append 54 (.getfield 26) 3 57 := dnAt dc_X3_append 36 rfl rfl
theorem d_X3_append_57 : dn cX3_append 57 (.iload 4) 2 59 := dnAt dc_X3_append 37 rfl rfl
theorem d_X3_append_59 : dn cX3_append 59 (.iconst 1) 1 60 := dnAt dc_X3_append 38 rfl rfl
theorem d_X3_append_60 : dn cX3_append 60 (.isub) 1 61 := dnAt dc_X3_append 39 rfl rfl
theorem d_X3_append_61 : dn cX3_append 61 (.iaload) 1 62 := dnAt dc_X3_append 40 rfl rfl
theorem d_X3_append_62 : dn cX3_append 62 (.aload_n 0) 1 63 := dnAt dc_X3_append 41 rfl rfl
theorem d_X3_append_63 : dn cX3_append 63 (.getfield 15) 3 66 := dnAt dc_X3_append 42 rfl rfl
theorem d_X3_append_66 : dn cX3_append 66 (.ifCond .eq 7) 3 69 := dnAt dc_X3_append 43 rfl rfl
theorem d_X3_append_69 : dn cX3_append 69 (.iconst 1) 1 70 := dnAt dc_X3_append 44 rfl rfl
theorem d_X3_append_70 : dn cX3_append 70 (.goto 4) 3 73 := dnAt dc_X3_append 45 rfl rfl
theorem d_X3_append_73 : dn cX3_append 73 (.iconst 0) 1 74 := dnAt dc_X3_append 46 rfl rfl
theorem d_X3_append_74 : dn cX3_append 74 (.iadd) 1 75 := dnAt dc_X3_append 47 rfl rfl
theorem d_X3_append_75 : dn cX3_append 75 (.iastore) 1 76 := dnAt dc_X3_append 48 rfl rfl
theorem d_X3_append_76 : dn cX3_append 76 (.aload_n 0) 1 77 := dnAt dc_X3_append 49 rfl rfl
theorem d_X3_append_77 : dn cX3_append 77 (.getfield 29) 3 80 := dnAt dc_X3_append 50 rfl rfl
theorem d_X3_append_80 : dn cX3_append 80 (.iload 4) 2 82 := dnAt dc_X3_append 51 rfl rfl
theorem d_X3_append_82 : dn cX3_append 82 (.aload_n 0) 1 83 := dnAt dc_X3_append 52 rfl rfl
theorem d_X3_append_83 : dn cX3_append 83 (.getfield 29) 3 86 := dnAt dc_X3_append 53 rfl rfl
theorem d_X3_append_86 : dn cX3_append 86 (.iload 4) 2 88 := dnAt dc_X3_append 54 rfl rfl
theorem d_X3_append_88 : dn cX3_append 88 (.iconst 1) 1 89 := dnAt dc_X3_append 55 rfl rfl
theorem d_X3_append_89 : dn cX3_append 89 (.isub) 1 90 := dnAt dc_X3_append 56 rfl rfl
theorem d_X3_append_90 : dn cX3_append 90 (.iaload) 1 91 := dnAt dc_X3_append 57 rfl rfl
theorem d_X3_append_91 : dn cX3_append 91 (.aload_n 0) 1 92 := dnAt dc_X3_append 58 rfl rfl
theorem d_X3_append_92 : dn cX3_append 92 (.getfield 19) 3 95 := dnAt dc_X3_append 59 rfl rfl
theorem d_X3_append_95 : dn cX3_append 95 (.ifCond .eq 7) 3 98 := dnAt dc_X3_append 60 rfl rfl
theorem d_X3_append_98 : dn cX3_append 98 (.iconst 1) 1 99 := dnAt dc_X3_append 61 rfl rfl
theorem d_X3_append_99 : dn cX3_append 99 (.goto 4) 3 102 := dnAt dc_X3_append 62 rfl rfl
theorem d_X3_append_102 : dn cX3_append 102 (.iconst 0) 1 103 := dnAt dc_X3_append 63 rfl rfl
theorem d_X3_append_103 : dn cX3_append 103 (.iadd) 1 104 := dnAt dc_X3_append 64 rfl rfl
theorem d_X3_append_104 : dn cX3_append 104 (.iastore) 1 105 := dnAt dc_X3_append 65 rfl rfl
theorem d_X3_append_105 : dn cX3_append 105 (.aload_n 0) 1 106 := dnAt dc_X3_append 66 rfl rfl
theorem d_X3_append_106 : dn cX3_append 106 (.iconst 0) 1 107 := dnAt dc_X3_append 67 rfl rfl
theorem d_X3_append_107 : dn cX3_append 107 (.putfield 15) 3 110 := dnAt dc_X3_append 68 rfl rfl
theorem d_X3_append_110 : dn cX3_append 110 (.aload_n 0) 1 111 := dnAt dc_X3_append 69 rfl rfl
theorem d_X3_append_111 : dn cX3_append 111 (.iconst 0) 1 112 := dnAt dc_X3_append 70 rfl rfl
theorem d_X3_append_112 : dn cX3_append 112 (.putfield 19) 3 115 := dnAt dc_X3_append 71 rfl rfl
theorem d_X3_append_115 : dn cX3_append 115 (.aload_n 0) 1 116 := dnAt dc_X3_append 72 rfl rfl
theorem d_X3_append_116 : dn cX3_append 116 (.dup) 1 117 := dnAt dc_X3_append 73 rfl rfl
theorem d_X3_append_117 : dn cX3_append 117 (.getfield 9) 3 120 := dnAt dc_X3_append 74 rfl rfl
theorem d_X3_append_120 : dn cX3_append 120 (.iconst 1) 1 121 := dnAt dc_X3_append 75 rfl rfl
theorem d_X3_append_121 : dn cX3_append 121 (.iadd) 1 122 := dnAt dc_X3_append 76 rfl rfl
theorem d_X3_append_122 : dn cX3_append 122 (.putfield 9) 3 125 := dnAt dc_X3_append 77 rfl rfl
theorem d_X3_append_125 : dn cX3_append 125 (.iload 4) 2 127 := dnAt dc_X3_append 78 rfl rfl
theorem d_X3_append_127 : dn cX3_append 127 (.ireturn) 1 128 := dnAt dc_X3_append 79 rfl rfl
set_option maxHeartbeats 4000000 in
set_option maxRecDepth 100000 in
theorem k_append {l : Launch} {G : eG} {ad : Nat → Nat → Nat} {h : hp} {g : mS} {s w k ro : Nat} (hm : co G ad g h) (I : mInv g) (hs : s < 2) (hp : mN g 1 s < 40) : kC l G ad h yX3_append cX3_append 5 (Option.some Jvm.ClassFile.FieldType.int) { frames := 0, cells := 0, slots := 0, locals := 0 } [.ref (ad 10 s), .int (nI w), .int (nI k), .int (nI ro)] (fun v9 g9 _ => v9 = some (.int (nI (mN g 1 s))) ∧ g9 = tApp g s w k ro) := by
  refine kC.of hm (by decide) (Nat.le_of_ble_eq_true rfl) ?_
  intro x C A TY
  show VC G x ad h g 0 0 0 [(0, .ref (ad 10 s)), (1, .int (nI w)), (2, .int (nI k)), (3, .int (nI ro))] []
  have hz : mN g 1 s = 0 → mN g 3 (40 * s + mN g 1 s) = 0 ∧ mN g 4 (40 * s + mN g 1 s) = 0 := fun z => by have h1 := I.2.2.1 (40 * s) (by omega); have h2 := I.2.2.2.1 (40 * s) (by omega); rw [z]; constructor <;> (simp only [Nat.add_zero]; omega)
  refine c_aload_n C d_X3_append_0 0 rfl ?_
  refine c_get C d_X3_append_1 fd_RX3_9 (k := 10) (i' := s) (decide_eq_true (by omega)) rfl (v := .int (nI (mN g 1 s))) rfl ?_
  refine c_istore C d_X3_append_4 (lv' := [(4, .int (nI (mN g 1 s))), (0, .ref (ad 10 s)), (1, .int (nI w)), (2, .int (nI k)), (3, .int (nI ro))]) (by decide) rfl ?_
  refine c_aload_n C d_X3_append_6 1 rfl ?_
  refine c_get C d_X3_append_7 fd_RX3_22 (k := 10) (i' := s) (decide_eq_true (by omega)) rfl (v := .ref (ad 11 s)) rfl ?_
  refine c_iload C d_X3_append_10 0 rfl ?_
  refine c_iconst C d_X3_append_12 (v := (nI 3)) rfl ?_
  refine cn_imul C d_X3_append_13 ?_
  refine c_iconst C d_X3_append_14 (v := (nI 0)) rfl ?_
  refine cn_iadd C d_X3_append_15 ?_
  refine c_iload_n C d_X3_append_16 2 rfl ?_
  refine c_ast C d_X3_append_17 (k := 11) (i := s) (v := w) (decide_eq_true (by omega)) rfl (by show _ < 120; omega) ?_
  refine c_aload_n C d_X3_append_18 1 rfl ?_
  refine c_get C d_X3_append_19 fd_RX3_22 (k := 10) (i' := s) (decide_eq_true (by omega)) rfl (v := .ref (ad 11 s)) rfl ?_
  refine c_iload C d_X3_append_22 0 rfl ?_
  refine c_iconst C d_X3_append_24 (v := (nI 3)) rfl ?_
  refine cn_imul C d_X3_append_25 ?_
  refine c_iconst C d_X3_append_26 (v := (nI 1)) rfl ?_
  refine cn_iadd C d_X3_append_27 ?_
  refine c_iload_n C d_X3_append_28 3 rfl ?_
  refine c_ast C d_X3_append_29 (k := 11) (i := s) (v := k) (decide_eq_true (by omega)) rfl (by show _ < 120; omega) ?_
  refine c_aload_n C d_X3_append_30 1 rfl ?_
  refine c_get C d_X3_append_31 fd_RX3_22 (k := 10) (i' := s) (decide_eq_true (by omega)) rfl (v := .ref (ad 11 s)) rfl ?_
  refine c_iload C d_X3_append_34 0 rfl ?_
  refine c_iconst C d_X3_append_36 (v := (nI 3)) rfl ?_
  refine cn_imul C d_X3_append_37 ?_
  refine c_iconst C d_X3_append_38 (v := (nI 2)) rfl ?_
  refine cn_iadd C d_X3_append_39 ?_
  refine c_iload_n C d_X3_append_40 4 rfl ?_
  refine c_ast C d_X3_append_41 (k := 11) (i := s) (v := ro) (decide_eq_true (by omega)) rfl (by show _ < 120; omega) ?_
  refine c_iload C d_X3_append_42 0 rfl ?_
  have join_105 : VC G x ad h (uN (uN (uN (uN (uN g 2 (120 * s + (mN g 1 s * 3 + 0)) w) 2 (120 * s + (mN g 1 s * 3 + 1)) k) 2 (120 * s + (mN g 1 s * 3 + 2)) ro) 3 (40 * s + mN g 1 s) (if mN g 1 s = 0 then 0 else mN g 3 (40 * s + mN g 1 s - 1) + (mB g 5 s).toNat)) 4 (40 * s + mN g 1 s) (if mN g 1 s = 0 then 0 else mN g 4 (40 * s + mN g 1 s - 1) + (mB g 6 s).toNat)) 0 0 105 [(4, .int (nI (mN g 1 s))), (0, .ref (ad 10 s)), (1, .int (nI w)), (2, .int (nI k)), (3, .int (nI ro))] [] := by
    refine c_aload_n C d_X3_append_105 1 rfl ?_
    refine c_iconst C d_X3_append_106 (v := (nI 0)) rfl ?_
    refine c_put C d_X3_append_107 pf_RX3_15 (k := 10) (i' := s) (g' := uB (uN (uN (uN (uN (uN g 2 (120 * s + (mN g 1 s * 3 + 0)) w) 2 (120 * s + (mN g 1 s * 3 + 1)) k) 2 (120 * s + (mN g 1 s * 3 + 2)) ro) 3 (40 * s + mN g 1 s) (if mN g 1 s = 0 then 0 else mN g 3 (40 * s + mN g 1 s - 1) + (mB g 5 s).toNat)) 4 (40 * s + mN g 1 s) (if mN g 1 s = 0 then 0 else mN g 4 (40 * s + mN g 1 s - 1) + (mB g 6 s).toNat)) 5 s false) (decide_eq_true (by omega)) rfl rfl rfl (Nat.le_of_ble_eq_true rfl) rfl (by simp only [ce, cSideO, mN_uN, mB_uB, mN_uB, mB_uN, List.set_cons_zero, List.set_cons_succ, and_self, and_true, true_and, if_true, if_false, (by decide : ¬ (6:Nat) = 5), (by decide : ¬ (5:Nat) = 6)]; try rfl) (oth_B (Or.inr (Or.inr (Or.inl ⟨Or.inl rfl, rfl, rfl⟩)))) ?_
    refine c_aload_n C d_X3_append_110 1 rfl ?_
    refine c_iconst C d_X3_append_111 (v := (nI 0)) rfl ?_
    refine c_put C d_X3_append_112 pf_RX3_19 (k := 10) (i' := s) (g' := uB (uB (uN (uN (uN (uN (uN g 2 (120 * s + (mN g 1 s * 3 + 0)) w) 2 (120 * s + (mN g 1 s * 3 + 1)) k) 2 (120 * s + (mN g 1 s * 3 + 2)) ro) 3 (40 * s + mN g 1 s) (if mN g 1 s = 0 then 0 else mN g 3 (40 * s + mN g 1 s - 1) + (mB g 5 s).toNat)) 4 (40 * s + mN g 1 s) (if mN g 1 s = 0 then 0 else mN g 4 (40 * s + mN g 1 s - 1) + (mB g 6 s).toNat)) 5 s false) 6 s false) (decide_eq_true (by omega)) rfl rfl rfl (Nat.le_of_ble_eq_true rfl) rfl (by simp only [ce, cSideO, mN_uN, mB_uB, mN_uB, mB_uN, List.set_cons_zero, List.set_cons_succ, and_self, and_true, true_and, if_true, if_false, (by decide : ¬ (6:Nat) = 5), (by decide : ¬ (5:Nat) = 6)]; try rfl) (oth_B (Or.inr (Or.inr (Or.inl ⟨Or.inr rfl, rfl, rfl⟩)))) ?_
    refine c_aload_n C d_X3_append_115 1 rfl ?_
    refine c_dup C d_X3_append_116 rfl ?_
    refine c_get C d_X3_append_117 fd_RX3_9 (k := 10) (i' := s) (decide_eq_true (by omega)) rfl (v := .int (nI (mN (uB (uB (uN (uN (uN (uN (uN g 2 (120 * s + (mN g 1 s * 3 + 0)) w) 2 (120 * s + (mN g 1 s * 3 + 1)) k) 2 (120 * s + (mN g 1 s * 3 + 2)) ro) 3 (40 * s + mN g 1 s) (if mN g 1 s = 0 then 0 else mN g 3 (40 * s + mN g 1 s - 1) + (mB g 5 s).toNat)) 4 (40 * s + mN g 1 s) (if mN g 1 s = 0 then 0 else mN g 4 (40 * s + mN g 1 s - 1) + (mB g 6 s).toNat)) 5 s false) 6 s false) 1 s))) rfl ?_
    refine c_st (st' := [.int (nI (mN g 1 s)), .ref (ad 10 s)]) (by first | rfl | simp only [mN_uN, mB_uB, mK_uK, and_self, if_true]) ?_
    refine c_iconst C d_X3_append_120 (v := (nI 1)) rfl ?_
    refine cn_iadd C d_X3_append_121 ?_
    refine c_put C d_X3_append_122 pf_RX3_9 (k := 10) (i' := s) (g' := uN (uB (uB (uN (uN (uN (uN (uN g 2 (120 * s + (mN g 1 s * 3 + 0)) w) 2 (120 * s + (mN g 1 s * 3 + 1)) k) 2 (120 * s + (mN g 1 s * 3 + 2)) ro) 3 (40 * s + mN g 1 s) (if mN g 1 s = 0 then 0 else mN g 3 (40 * s + mN g 1 s - 1) + (mB g 5 s).toNat)) 4 (40 * s + mN g 1 s) (if mN g 1 s = 0 then 0 else mN g 4 (40 * s + mN g 1 s - 1) + (mB g 6 s).toNat)) 5 s false) 6 s false) 1 s ((mN g 1 s) + 1)) (decide_eq_true (by omega)) rfl rfl rfl (Nat.le_of_ble_eq_true rfl) rfl (by simp only [ce, cSideO, mN_uN, mB_uB, mN_uB, mB_uN, List.set_cons_zero, List.set_cons_succ, and_self, and_true, true_and, if_true, if_false, (by decide : ¬ (6:Nat) = 5), (by decide : ¬ (5:Nat) = 6)]; try rfl) (oth_N (Or.inl ⟨rfl, rfl, rfl⟩)) ?_
    refine c_iload C d_X3_append_125 0 rfl ?_
    exact k_iret C A cfr_rf TY d_X3_append_127 rfl (Nat.le_of_ble_eq_true rfl) (Nat.le_of_ble_eq_true rfl) (fun h9 F9 => ⟨rfl, by unfold tApp; rw [show 3 * (40 * s + mN g 1 s) + 0 = 120 * s + (mN g 1 s * 3 + 0) by omega, show 3 * (40 * s + mN g 1 s) + 1 = 120 * s + (mN g 1 s * 3 + 1) by omega, show 3 * (40 * s + mN g 1 s) + 2 = 120 * s + (mN g 1 s * 3 + 2) by omega]⟩)
  refine cn_if_le C d_X3_append_44 (tgt := 105) rfl (by omega) (fun c_44 => ?_) (fun c_44 => ?_)
  · skip
    refine c_eq (g' := uN (uN (uN (uN (uN g 2 (120 * s + (mN g 1 s * 3 + 0)) w) 2 (120 * s + (mN g 1 s * 3 + 1)) k) 2 (120 * s + (mN g 1 s * 3 + 2)) ro) 3 (40 * s + mN g 1 s) (if mN g 1 s = 0 then 0 else mN g 3 (40 * s + mN g 1 s - 1) + (mB g 5 s).toNat)) 4 (40 * s + mN g 1 s) (if mN g 1 s = 0 then 0 else mN g 4 (40 * s + mN g 1 s - 1) + (mB g 6 s).toNat)) (by rw [if_pos c_44, if_pos c_44, uN_same (show mN (uN (uN (uN g 2 (120 * s + (mN g 1 s * 3 + 0)) w) 2 (120 * s + (mN g 1 s * 3 + 1)) k) 2 (120 * s + (mN g 1 s * 3 + 2)) ro) 3 (40 * s + mN g 1 s) = 0 from (hz c_44).1), uN_same (show mN (uN (uN (uN g 2 (120 * s + (mN g 1 s * 3 + 0)) w) 2 (120 * s + (mN g 1 s * 3 + 1)) k) 2 (120 * s + (mN g 1 s * 3 + 2)) ro) 4 (40 * s + mN g 1 s) = 0 from (hz c_44).2)]) ?_
    exact join_105  
  · skip
    refine c_aload_n C d_X3_append_47 1 rfl ?_
    refine c_get C d_X3_append_48 fd_RX3_26 (k := 10) (i' := s) (decide_eq_true (by omega)) rfl (v := .ref (ad 12 s)) rfl ?_
    refine c_iload C d_X3_append_51 0 rfl ?_
    refine c_aload_n C d_X3_append_53 1 rfl ?_
    refine c_get C d_X3_append_54 fd_RX3_26 (k := 10) (i' := s) (decide_eq_true (by omega)) rfl (v := .ref (ad 12 s)) rfl ?_
    refine c_iload C d_X3_append_57 0 rfl ?_
    refine c_iconst C d_X3_append_59 (v := (nI 1)) rfl ?_
    refine cn_isub C d_X3_append_60 (by omega) ?_
    refine c_ald C d_X3_append_61 (k := 12) (i := s) (decide_eq_true (by omega)) rfl (by show _ < 40; omega) ?_
    refine c_st (st' := [.int (nI (mN g 3 (40 * s + ((mN g 1 s) - 1)))), .int (nI (mN g 1 s)), .ref (ad 12 s)]) (rfl) ?_
    refine c_aload_n C d_X3_append_62 1 rfl ?_
    refine c_get C d_X3_append_63 fd_RX3_15 (k := 10) (i' := s) (decide_eq_true (by omega)) rfl (v := .int (bI (mB (uN (uN (uN g 2 (120 * s + (((mN g 1 s) * 3) + 0)) w) 2 (120 * s + (((mN g 1 s) * 3) + 1)) k) 2 (120 * s + (((mN g 1 s) * 3) + 2)) ro) 5 s))) rfl ?_
    refine c_st (st' := [.int (bI (mB g 5 s)), .int (nI (mN g 3 (40 * s + ((mN g 1 s) - 1)))), .int (nI (mN g 1 s)), .ref (ad 12 s)]) (by first | rfl | simp only [mN_uN, mB_uB, mK_uK, and_self, if_true]) ?_
    have join_74 : VC G x ad h (uN (uN (uN g 2 (120 * s + (((mN g 1 s) * 3) + 0)) w) 2 (120 * s + (((mN g 1 s) * 3) + 1)) k) 2 (120 * s + (((mN g 1 s) * 3) + 2)) ro) 0 0 74 [(4, .int (nI (mN g 1 s))), (0, .ref (ad 10 s)), (1, .int (nI w)), (2, .int (nI k)), (3, .int (nI ro))] [.int (nI ((mB g 5 s).toNat)), .int (nI (mN g 3 (40 * s + (mN g 1 s - 1)))), .int (nI (mN g 1 s)), .ref (ad 12 s)] := by
      refine cn_iadd C d_X3_append_74 ?_
      refine c_ast C d_X3_append_75 (k := 12) (i := s) (v := (mN g 3 (40 * s + (mN g 1 s - 1))) + ((mB g 5 s).toNat)) (decide_eq_true (by omega)) rfl (by show _ < 40; omega) ?_
      refine c_aload_n C d_X3_append_76 1 rfl ?_
      refine c_get C d_X3_append_77 fd_RX3_29 (k := 10) (i' := s) (decide_eq_true (by omega)) rfl (v := .ref (ad 13 s)) rfl ?_
      refine c_iload C d_X3_append_80 0 rfl ?_
      refine c_aload_n C d_X3_append_82 1 rfl ?_
      refine c_get C d_X3_append_83 fd_RX3_29 (k := 10) (i' := s) (decide_eq_true (by omega)) rfl (v := .ref (ad 13 s)) rfl ?_
      refine c_iload C d_X3_append_86 0 rfl ?_
      refine c_iconst C d_X3_append_88 (v := (nI 1)) rfl ?_
      refine cn_isub C d_X3_append_89 (by omega) ?_
      refine c_ald C d_X3_append_90 (k := 13) (i := s) (decide_eq_true (by omega)) rfl (by show _ < 40; omega) ?_
      refine c_st (st' := [.int (nI (mN g 4 (40 * s + ((mN g 1 s) - 1)))), .int (nI (mN g 1 s)), .ref (ad 13 s)]) (rfl) ?_
      refine c_aload_n C d_X3_append_91 1 rfl ?_
      refine c_get C d_X3_append_92 fd_RX3_19 (k := 10) (i' := s) (decide_eq_true (by omega)) rfl (v := .int (bI (mB (uN (uN (uN (uN g 2 (120 * s + (((mN g 1 s) * 3) + 0)) w) 2 (120 * s + (((mN g 1 s) * 3) + 1)) k) 2 (120 * s + (((mN g 1 s) * 3) + 2)) ro) 3 (40 * s + (mN g 1 s)) ((mN g 3 (40 * s + (mN g 1 s - 1))) + ((mB g 5 s).toNat))) 6 s))) rfl ?_
      refine c_st (st' := [.int (bI (mB g 6 s)), .int (nI (mN g 4 (40 * s + ((mN g 1 s) - 1)))), .int (nI (mN g 1 s)), .ref (ad 13 s)]) (by first | rfl | simp only [mN_uN, mB_uB, mK_uK, and_self, if_true]) ?_
      have join_103 : VC G x ad h (uN (uN (uN (uN g 2 (120 * s + (((mN g 1 s) * 3) + 0)) w) 2 (120 * s + (((mN g 1 s) * 3) + 1)) k) 2 (120 * s + (((mN g 1 s) * 3) + 2)) ro) 3 (40 * s + (mN g 1 s)) ((mN g 3 (40 * s + (mN g 1 s - 1))) + ((mB g 5 s).toNat))) 0 0 103 [(4, .int (nI (mN g 1 s))), (0, .ref (ad 10 s)), (1, .int (nI w)), (2, .int (nI k)), (3, .int (nI ro))] [.int (nI ((mB g 6 s).toNat)), .int (nI (mN g 4 (40 * s + (mN g 1 s - 1)))), .int (nI (mN g 1 s)), .ref (ad 13 s)] := by
        refine cn_iadd C d_X3_append_103 ?_
        refine c_ast C d_X3_append_104 (k := 13) (i := s) (v := (mN g 4 (40 * s + (mN g 1 s - 1))) + ((mB g 6 s).toNat)) (decide_eq_true (by omega)) rfl (by show _ < 40; omega) ?_
        refine c_eq (g' := uN (uN (uN (uN (uN g 2 (120 * s + (mN g 1 s * 3 + 0)) w) 2 (120 * s + (mN g 1 s * 3 + 1)) k) 2 (120 * s + (mN g 1 s * 3 + 2)) ro) 3 (40 * s + mN g 1 s) (if mN g 1 s = 0 then 0 else mN g 3 (40 * s + mN g 1 s - 1) + (mB g 5 s).toNat)) 4 (40 * s + mN g 1 s) (if mN g 1 s = 0 then 0 else mN g 4 (40 * s + mN g 1 s - 1) + (mB g 6 s).toNat)) (by rw [if_neg (by omega), if_neg (by omega), show 40 * s + mN g 1 s - 1 = 40 * s + (mN g 1 s - 1) by omega]) ?_
        exact join_105  
      refine cb_if_eq C d_X3_append_95 (tgt := 102) rfl (fun c_95 => ?_) (fun c_95 => ?_)
      · skip
        refine c_iconst C d_X3_append_102 (v := (nI 0)) rfl ?_
        refine c_st (st' := [.int (nI ((mB g 6 s).toNat)), .int (nI (mN g 4 (40 * s + (mN g 1 s - 1)))), .int (nI (mN g 1 s)), .ref (ad 13 s)]) (by rw [bN_0 c_95]) ?_
        exact join_103  
      · skip
        refine c_iconst C d_X3_append_98 (v := (nI 1)) rfl ?_
        refine c_goto C d_X3_append_99 (tgt := 103) rfl ?_
        refine c_st (st' := [.int (nI ((mB g 6 s).toNat)), .int (nI (mN g 4 (40 * s + (mN g 1 s - 1)))), .int (nI (mN g 1 s)), .ref (ad 13 s)]) (by rw [bN_1 c_95]) ?_
        exact join_103  
    refine cb_if_eq C d_X3_append_66 (tgt := 73) rfl (fun c_66 => ?_) (fun c_66 => ?_)
    · skip
      refine c_iconst C d_X3_append_73 (v := (nI 0)) rfl ?_
      refine c_st (st' := [.int (nI ((mB g 5 s).toNat)), .int (nI (mN g 3 (40 * s + (mN g 1 s - 1)))), .int (nI (mN g 1 s)), .ref (ad 12 s)]) (by rw [bN_0 c_66]) ?_
      exact join_74  
    · skip
      refine c_iconst C d_X3_append_69 (v := (nI 1)) rfl ?_
      refine c_goto C d_X3_append_70 (tgt := 74) rfl ?_
      refine c_st (st' := [.int (nI ((mB g 5 s).toNat)), .int (nI (mN g 3 (40 * s + (mN g 1 s - 1)))), .int (nI (mN g 1 s)), .ref (ad 12 s)]) (by rw [bN_1 c_66]) ?_
      exact join_74  
