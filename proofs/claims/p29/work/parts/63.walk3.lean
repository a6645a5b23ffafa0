theorem tw_502 : (Jvm.Cond.methodLink "Corpusline$Walker" (22 : Nat) ({ cls := "Corpusline$Side", name := "isWithin", desc := "(III)Z" } : Jvm.MethodName)) ∈ TB := tb_of 502 (by decide +kernel) rfl
theorem tw_503 : (Jvm.Cond.instanceMethod ({ cls := "Corpusline$Side", name := "isWithin", desc := "(III)Z" } : Jvm.MethodName)) ∈ TB := tb_of 503 (by decide +kernel) rfl
theorem tw_504 : (Jvm.Cond.selects "Corpusline$Side" ({ cls := "Corpusline$Side", name := "isWithin", desc := "(III)Z" } : Jvm.MethodName) ({ cls := "Corpusline$Side", name := "isWithin", desc := "(III)Z" } : Jvm.MethodName)) ∈ TB := tb_of 504 (by decide +kernel) rfl
theorem tw_505 : (Jvm.Cond.code ({ cls := "Corpusline$Side", name := "isWithin", desc := "(III)Z" } : Jvm.MethodName) prog_5_method_5_code (4 : Nat) (Option.some Jvm.ClassFile.FieldType.boolean)) ∈ TB := tb_of 505 (by decide +kernel) rfl
theorem tw_506 : (Jvm.Cond.methodLink "Corpusline$Walker" (28 : Nat) ({ cls := "Corpusline$Walker", name := "isWholeBehind", desc := "(LCorpusline$Part;LCorpusline$Side;I)Z" } : Jvm.MethodName)) ∈ TB := tb_of 506 (by decide +kernel) rfl
theorem tw_508 : (Jvm.Cond.instanceMethod ({ cls := "Corpusline$Walker", name := "isWholeBehind", desc := "(LCorpusline$Part;LCorpusline$Side;I)Z" } : Jvm.MethodName)) ∈ TB := tb_of 508 (by decide +kernel) rfl
theorem tw_509 : (Jvm.Cond.code ({ cls := "Corpusline$Walker", name := "isWholeBehind", desc := "(LCorpusline$Part;LCorpusline$Side;I)Z" } : Jvm.MethodName) prog_7_method_3_code (8 : Nat) (Option.some Jvm.ClassFile.FieldType.boolean)) ∈ TB := tb_of 509 (by decide +kernel) rfl
theorem ts_11 : Cond.selects "Corpusline$Walker" ({ cls := "Corpusline$Walker", name := "isWholeBehind", desc := "(LCorpusline$Part;LCorpusline$Side;I)Z" } : MethodName) ({ cls := "Corpusline$Walker", name := "isWholeBehind", desc := "(LCorpusline$Part;LCorpusline$Side;I)Z" } : MethodName) ∈ TB := tb_sel 11 (by decide +kernel) rfl
theorem ok_RX5_22 : okV RX5 22 yX3_isWithin cX3_isWithin 4 (Option.some Jvm.ClassFile.FieldType.boolean) 3 := ⟨tw_502, tw_503, tw_504, tw_3, tw_505, ⟨by decide, by decide, by decide +kernel⟩⟩
theorem ok_RX5_28 : okV RX5 28 yX5_isWholeBehind cX5_isWholeBehind 8 (Option.some Jvm.ClassFile.FieldType.boolean) 3 := ⟨tw_506, tw_508, ts_11, tw_2, tw_509, ⟨by decide, by decide, by decide +kernel⟩⟩
theorem psL_congr {g : mS} {y : pA} {T : Nat → tC3} {s p kc : Nat} {u v : Nat → Nat} (h : ∀ j, j < kc → u j = v j) : ∀ i, psL g y T s p u kc i = psL g y T s p v kc i
  | 0 => rfl
  | i + 1 => by rw [psL, psL, psL_congr h i, adR_congr h]
theorem whL_congr {g : mS} {y : pA} {T : Nat → tC3} {s p kc : Nat} {u v : Nat → Nat} (h : ∀ j, j < kc → u j = v j) : ∀ i, whL g y T s p u kc i = whL g y T s p v kc i
  | 0 => rfl
  | i + 1 => by rw [whL, whL, whL_congr h i, adR_congr h]
/-- the ways behind a token, of a list of ways; whether one ends there -/
def psV (g : mS) (y : pA) (T : Nat → tC3) (s p : Nat) (V : List Nat) : List Nat := psL g y T s p (fun j => V.getD j 0) V.length y.1
def whV (g : mS) (y : pA) (T : Nat → tC3) (s p : Nat) (V : List Nat) : Bool := whL g y T s p (fun j => V.getD j 0) V.length y.1
/-- the ways behind so many tokens from a place on -/
def wyL (g : mS) (y : pA) (T : Nat → tC3) (s pl : Nat) : Nat → List Nat
  | 0 => [0]
  | L + 1 => psV g y T s (pl + L) (wyL g y T s pl L)
/-- the length of the match: so many more tokens, so many passed, the best so far -/
def lfA (g : mS) (y : pA) (T : Nat → tC3) (s pl bd : Nat) (Lg : Bool) : Nat → Nat → Nat → Nat
  | 0, _, best => best
  | f + 1, L, best => if (wyL g y T s pl L).length = 0 ∨ inW g s pl (pl + L) bd = false then best else if whV g y T s (pl + L) (wyL g y T s pl L) = true then (if Lg = false then L + 1 else lfA g y T s pl bd Lg f (L + 1) (L + 1)) else lfA g y T s pl bd Lg f (L + 1) best
theorem wiB_not (b : Bool) : wiB (!b) = siB b := by cases b <;> rfl
theorem k_isWhole2 {l : Launch} {G : eG} {ad : Nat → Nat → Nat} {h : hp} {g : mS} {f : Nat → Nat} {s p a : Nat} {bb is : Bool} {y : pA} {T : Nat → tC3} {V : List Nat} (hm : co G ad (wst g f V.length bb) h) (I : mInv g) (W : wkA G ad h T a y is) (hs : s < 2) (hp : p < 40) (hkc : V.length ≤ 70) (hV : ∀ j, j < V.length → f (70 * wiB bb + j) = V.getD j 0) (hok : ∀ w, w ∈ V → okW y.1 w) (hfb : ∀ z, z < 140 → f z < 4194304) (hA : (psV g y T s p V).length ≤ 70) : kC l G ad h yX5_isWholeBehind cX5_isWholeBehind 8 (Option.some Jvm.ClassFile.FieldType.boolean) { frames := 4, cells := 0, slots := 0, locals := 97 } [.ref (ad 5 0), .ref a, .ref (ad 10 s), .int (nI p)] (fun v9 g9 _ => v9 = some (.int (bI (whV g y T s p V))) ∧ g9 = wst g (spf f (70 * siB bb) (psV g y T s p V)) (psV g y T s p V).length (!bb)) := by
  have e1 := psL_congr (g := g) (y := y) (T := T) (s := s) (p := p) hV y.1
  have e2 := whL_congr (g := g) (y := y) (T := T) (s := s) (p := p) hV y.1
  have k := k_isWhole (l := l) hm I W hs hp hkc (fun j hj => by rw [hV j hj]; exact hok _ (getD_mem hj)) hfb (by rw [e1]; exact hA)
  rw [e1, e2] at k
  exact k
theorem wst_0 {g : mS} {f : Nat → Nat} {k : Nat} {b : Bool} : uK (uN (wst g f k b) 50 (70 * wiB b + 0) 0) 41 1 = wst g (fun z => if z = 70 * wiB b + 0 then 0 else f z) 1 b := by
  show uK (uK (uB (uB (uN (sN g 50 f) 50 (70 * wiB b + 0) 0) 30 0 b) 31 0 b) 41 k) 41 1 = _
  unfold wst
  rw [sN_step (g := fun z => if z = 70 * wiB b + 0 then 0 else f z) (fun _ => rfl)]
  exact mS_ext (fun j => by
    show (if j = 41 then 1 else if j = 41 then k else mK g j) = if j = 41 then 1 else mK g j
    split <;> rfl) (fun _ _ => rfl) (fun _ _ => rfl) (fun _ _ => rfl)
theorem inW_lt {g : mS} {s k e b : Nat} (h : inW g s k e b = true) : e < mN g 1 s := by
  unfold inW at h
  rw [Bool.and_eq_true, decide_eq_true_eq] at h
  exact h.1
theorem okW_lt {n w : Nat} (h : okW n w) : w < 4194304 := h.1
def dl_X5_lengthFrom : List (Nat × Instr × Nat) := [(0, .iconst 0, 1), (1, .istore 6, 2), (3, .aload_n 0, 1), (4, .getfield 11, 3), (7, .iconst 0, 1), (8, .iconst 0, 1), (9, .iastore, 1), (10, .aload_n 0, 1), (11, .iconst 1, 1), (12, .putfield 18, 3), (15, .iconst 1, 1), (16, .istore 7, 2), (18, .iload 7, 2), (20, .bipush 8, 2), (22, .if_icmp .gt 62, 3), (25, .aload_n 0, 1), (26, .getfield 18, 3), (29, .ifCond .le 55, 3), (32, .iload_n 3, 1), (33, .iload 7, 2), (35, .iadd, 1), (36, .iconst 1, 1), (37, .isub, 1), (38, .istore 8, 2), (40, .aload_n 2, 1), (41, .iload_n 3, 1), (42, .iload 8, 2), (44, .iload 4, 2), (46, .invokevirtual 22, 3), (49, .ifCond .ne 6, 3), (52, .goto 32, 3), (55, .aload_n 0, 1), (56, .aload_n 1, 1), (57, .aload_n 2, 1), (58, .iload 8, 2), (60, .invokevirtual 28, 3), (63, .ifCond .eq 15, 3), (66, .iload 7, 2), (68, .istore 6, 2), (70, .iload 5, 2), (72, .ifCond .ne 6, 3), (75, .goto 9, 3), (78, .iinc 7 1, 3), (81, .goto (-63), 3), (84, .iload 6, 2), (86, .ireturn, 1)]
theorem dc_X5_lengthFrom : dnL cX5_lengthFrom dl_X5_lengthFrom = true := by decide +kernel
theorem d_X5_lengthFrom_0 : dn cX5_lengthFrom 0 (.iconst 0) 1 1 := dnAt dc_X5_lengthFrom 0 rfl rfl
theorem d_X5_lengthFrom_1 : dn cX5_lengthFrom 1 (.istore 6) 2 3 := dnAt dc_X5_lengthFrom 1 rfl rfl
theorem d_X5_lengthFrom_3 : dn cX5_lengthFrom 3 (.aload_n 0) 1 4 := dnAt dc_X5_lengthFrom 2 rfl rfl
theorem d_X5_lengthFrom_4 : dn cX5_lengthFrom 4 (.getfield 11) 3 7 := dnAt dc_X5_lengthFrom 3 rfl rfl
theorem d_X5_lengthFrom_7 : dn cX5_lengthFrom 7 (.iconst 0) 1 8 := dnAt dc_X5_lengthFrom 4 rfl rfl
theorem d_X5_lengthFrom_8 : dn cX5_lengthFrom 8 (.iconst 0) 1 9 := dnAt dc_X5_lengthFrom 5 rfl rfl
theorem d_X5_lengthFrom_9 : dn cX5_lengthFrom 9 (.iastore) 1 10 := dnAt dc_X5_lengthFrom 6 rfl rfl
theorem d_X5_lengthFrom_10 : dn cX5_lengthFrom 10 (.aload_n 0) 1 11 := dnAt dc_X5_lengthFrom 7 rfl rfl
theorem d_X5_lengthFrom_11 : dn cX5_lengthFrom 11 (.iconst 1) 1 12 := dnAt dc_X5_lengthFrom 8 rfl rfl
theorem d_X5_lengthFrom_12 : dn cX5_lengthFrom 12 (.putfield 18) 3 15 := dnAt dc_X5_lengthFrom 9 rfl rfl
theorem d_X5_lengthFrom_15 : dn cX5_lengthFrom 15 (.iconst 1) 1 16 := dnAt dc_X5_lengthFrom 10 rfl rfl
theorem d_X5_lengthFrom_16 : dn cX5_lengthFrom 16 (.istore 7) 2 18 := dnAt dc_X5_lengthFrom 11 rfl rfl
theorem d_X5_lengthFrom_18 : dn cX5_lengthFrom 18 (.iload 7) 2 20 := dnAt dc_X5_lengthFrom 12 rfl rfl
theorem d_X5_lengthFrom_20 : dn cX5_lengthFrom 20 (.bipush 8) 2 22 := dnAt dc_X5_lengthFrom 13 rfl rfl
theorem d_X5_lengthFrom_22 : dn cX5_lengthFrom 22 (.if_icmp .gt 62) 3 25 := dnAt dc_X5_lengthFrom 14 rfl rfl
theorem d_X5_lengthFrom_25 : dn cX5_lengthFrom 25 (.aload_n 0) 1 26 := dnAt dc_X5_lengthFrom 15 rfl rfl
theorem d_X5_lengthFrom_26 : dn cX5_lengthFrom 26 (.getfield 18) 3 29 := dnAt dc_X5_lengthFrom 16 rfl rfl
theorem d_X5_lengthFrom_29 : dn cX5_lengthFrom 29 (.ifCond .le 55) 3 32 := dnAt dc_X5_lengthFrom 17 rfl rfl
theorem d_X5_lengthFrom_32 : dn cX5_lengthFrom 32 (.iload_n 3) 1 33 := dnAt dc_X5_lengthFrom 18 rfl rfl
theorem d_X5_lengthFrom_33 : dn cX5_lengthFrom 33 (.iload 7) 2 35 := dnAt dc_X5_lengthFrom 19 rfl rfl
theorem d_X5_lengthFrom_35 : dn cX5_lengthFrom 35 (.iadd) 1 36 := dnAt dc_X5_lengthFrom 20 rfl rfl
theorem d_X5_lengthFrom_36 : dn cX5_lengthFrom 36 (.iconst 1) 1 37 := dnAt dc_X5_lengthFrom 21 rfl rfl
theorem d_X5_lengthFrom_37 : dn cX5_lengthFrom 37 (.isub) 1 38 := dnAt dc_X5_lengthFrom 22 rfl rfl
theorem d_X5_lengthFrom_38 : dn cX5_lengthFrom 38 (.istore 8) 2 40 := dnAt dc_X5_lengthFrom 23 rfl rfl
theorem d_X5_lengthFrom_40 : dn cX5_lengthFrom 40 (.aload_n 2) 1 41 := dnAt dc_X5_lengthFrom 24 rfl rfl
theorem d_X5_lengthFrom_41 : dn cX5_lengthFrom 41 (.iload_n 3) 1 42 := dnAt dc_X5_lengthFrom 25 rfl rfl
theorem d_X5_lengthFrom_42 : dn cX5_lengthFrom 42 (.iload 8) 2 44 := dnAt dc_X5_lengthFrom 26 rfl rfl
theorem d_X5_lengthFrom_44 : dn cX5_lengthFrom 44 (.iload 4) 2 46 := dnAt dc_X5_lengthFrom 27 rfl rfl
theorem d_X5_lengthFrom_46 : dn cX5_lengthFrom 46 (.invokevirtual 22) 3 49 := dnAt dc_X5_lengthFrom 28 rfl rfl
theorem d_X5_lengthFrom_49 : dn cX5_lengthFrom 49 (.ifCond .ne 6) 3 52 := dnAt dc_X5_lengthFrom 29 rfl rfl
theorem d_X5_lengthFrom_52 : dn cX5_lengthFrom 52 (.goto 32) 3 55 := dnAt dc_X5_lengthFrom 30 rfl rfl
theorem d_X5_lengthFrom_55 : dn cX5_lengthFrom 55 (.aload_n 0) 1 56 := dnAt dc_X5_lengthFrom 31 rfl rfl
theorem d_X5_lengthFrom_56 : dn cX5_lengthFrom 56 (.aload_n 1) 1 57 := dnAt dc_X5_lengthFrom 32 rfl rfl
theorem d_X5_lengthFrom_57 : dn cX5_lengthFrom 57 (.aload_n 2) 1 58 := dnAt dc_X5_lengthFrom 33 rfl rfl
theorem d_X5_lengthFrom_58 : dn cX5_lengthFrom 58 (.iload 8) 2 60 := dnAt dc_X5_lengthFrom 34 rfl rfl
theorem d_X5_lengthFrom_60 : dn cX5_lengthFrom 60 (.invokevirtual 28) 3 63 := dnAt dc_X5_lengthFrom 35 rfl rfl
theorem d_X5_lengthFrom_63 : dn cX5_lengthFrom 63 (.ifCond .eq 15) 3 66 := dnAt dc_X5_lengthFrom 36 rfl rfl
theorem d_X5_lengthFrom_66 : dn cX5_lengthFrom 66 (.iload 7) 2 68 := dnAt dc_X5_lengthFrom 37 rfl rfl
theorem d_X5_lengthFrom_68 : dn cX5_lengthFrom 68 (.istore 6) 2 70 := dnAt dc_X5_lengthFrom 38 rfl rfl
theorem d_X5_lengthFrom_70 : dn cX5_lengthFrom 70 (.iload 5) 2 72 := dnAt dc_X5_lengthFrom 39 rfl rfl
theorem d_X5_lengthFrom_72 : dn cX5_lengthFrom 72 (.ifCond .ne 6) 3 75 := dnAt dc_X5_lengthFrom 40 rfl rfl
theorem d_X5_lengthFrom_75 : dn cX5_lengthFrom 75 (.goto 9) 3 78 := dnAt dc_X5_lengthFrom 41 rfl rfl
theorem d_X5_lengthFrom_78 : dn cX5_lengthFrom 78 (.iinc 7 1) 3 81 := dnAt dc_X5_lengthFrom 42 rfl rfl
theorem d_X5_lengthFrom_81 : dn cX5_lengthFrom 81 (.goto (-63)) 3 84 := dnAt dc_X5_lengthFrom 43 rfl rfl
theorem d_X5_lengthFrom_84 : dn cX5_lengthFrom 84 (.iload 6) 2 86 := dnAt dc_X5_lengthFrom 44 rfl rfl
theorem d_X5_lengthFrom_86 : dn cX5_lengthFrom 86 (.ireturn) 1 87 := dnAt dc_X5_lengthFrom 45 rfl rfl
set_option maxHeartbeats 4000000 in
set_option maxRecDepth 100000 in
theorem k_lengthFrom {l : Launch} {G : eG} {ad : Nat → Nat → Nat} {h : hp} {g : mS} {f : Nat → Nat} {kc s pl bd a : Nat} {bb is Lg : Bool} {y : pA} {T : Nat → tC3} (hm : co G ad (wst g f kc bb) h) (I : mInv g) (W : wkA G ad h T a y is) (hs : s < 2) (hpl : pl < 40) (hbd : bd < 3) (hfb : ∀ z, z < 140 → f z < 4194304) (hB : ∀ L, L < 8 → pl + L < 40 → (wyL g y T s pl (L + 1)).length ≤ 70) (hO : ∀ L, L ≤ 8 → pl + L ≤ 40 → ∀ w, w ∈ (wyL g y T s pl L) → okW y.1 w) : kC l G ad h yX5_lengthFrom cX5_lengthFrom 9 (Option.some Jvm.ClassFile.FieldType.int) { frames := 5, cells := 0, slots := 0, locals := 124 } [.ref (ad 5 0), .ref a, .ref (ad 10 s), .int (nI pl), .int (nI bd), .int (bI Lg)] (fun v9 g9 _ => v9 = some (.int (nI (lfA g y T s pl bd Lg 8 0 0))) ∧ ∃ f9 k9 b9, g9 = wst g f9 k9 b9 ∧ ∀ z, z < 140 → f9 z < 4194304) := by
  refine kC.of hm (by decide) (Nat.le_of_ble_eq_true rfl) ?_
  intro x C A TY
  show VC G x ad h (wst g f kc bb) 0 0 0 [(0, .ref (ad 5 0)), (1, .ref a), (2, .ref (ad 10 s)), (3, .int (nI pl)), (4, .int (nI bd)), (5, .int (bI Lg))] []
  have hmany := I.1 s hs
  refine c_iconst C d_X5_lengthFrom_0 (v := (nI 0)) rfl ?_
  refine c_istore C d_X5_lengthFrom_1 (lv' := [(6, .int (nI 0)), (0, .ref (ad 5 0)), (1, .ref a), (2, .ref (ad 10 s)), (3, .int (nI pl)), (4, .int (nI bd)), (5, .int (bI Lg))]) (by decide) rfl ?_
  refine c_aload_n C d_X5_lengthFrom_3 1 rfl ?_
  refine c_get C d_X5_lengthFrom_4 fd_RX5_11 (k := 5) (i' := 0) rfl rfl (v := .ref (ad 7 (wi (wst g f kc bb)))) rfl ?_
  refine c_st (st' := [.ref (ad 7 (wiB bb))]) (rfl) ?_
  refine c_iconst C d_X5_lengthFrom_7 (v := (nI 0)) rfl ?_
  refine c_iconst C d_X5_lengthFrom_8 (v := (nI 0)) rfl ?_
  refine c_ast C d_X5_lengthFrom_9 (k := 7) (i := wiB bb) (v := 0) (decide_eq_true (by have := wsb bb; omega)) rfl (by show 0 < 70; omega) ?_
  refine c_aload_n C d_X5_lengthFrom_10 1 rfl ?_
  refine c_iconst C d_X5_lengthFrom_11 (v := (nI 1)) rfl ?_
  refine c_put C d_X5_lengthFrom_12 pf_RX5_18 (k := 5) (i' := 0) (g' := uK (uN (wst g f kc bb) 50 (70 * (wiB bb) + 0) 0) 41 1) rfl rfl rfl rfl (Nat.le_of_ble_eq_true rfl) rfl (rfl) (oth_K (by decide) rfl) ?_
  refine c_iconst C d_X5_lengthFrom_15 (v := (nI 1)) rfl ?_
  refine c_istore C d_X5_lengthFrom_16 (lv' := [(7, .int (nI 1)), (6, .int (nI 0)), (0, .ref (ad 5 0)), (1, .ref a), (2, .ref (ad 10 s)), (3, .int (nI pl)), (4, .int (nI bd)), (5, .int (bI Lg))]) (by decide) rfl ?_
  have loop_18 : ∀ (fuel : Nat) (L : Nat) (best : Nat) (fq : Nat → Nat) (bq : Bool), (L ≤ 8 ∧ pl + L ≤ 40 ∧ (wyL g y T s pl L).length ≤ 70) → (∀ j, j < (wyL g y T s pl L).length → fq (70 * wiB bq + j) = (wyL g y T s pl L).getD j 0) → (∀ z, z < 140 → fq z < 4194304) → (lfA g y T s pl bd Lg (8 - L) L best = lfA g y T s pl bd Lg 8 0 0) → (9 - L) < fuel → VC G x ad h (wst g fq (wyL g y T s pl L).length bq) 0 0 18 [(7, .int (nI (L + 1))), (6, .int (nI best)), (0, .ref (ad 5 0)), (1, .ref a), (2, .ref (ad 10 s)), (3, .int (nI pl)), (4, .int (nI bd)), (5, .int (bI Lg))] [] := by
    intro fuel
    induction fuel with
    | zero => intro L best fq bq hL hV hq hR hf9; exact absurd hf9 (Nat.not_lt_zero _)
    | succ fuel ih_18 =>
      intro L best fq bq hL hV hq hR hf9
      refine c_iload C d_X5_lengthFrom_18 0 rfl ?_
      refine c_bipush C d_X5_lengthFrom_20 (v := (nI 8)) rfl ?_
      refine cn_icmp_gt C d_X5_lengthFrom_22 (tgt := 84) rfl (by omega) (by omega) (fun c_22 => ?_) (fun c_22 => ?_)
      · skip
        refine c_iload C d_X5_lengthFrom_84 1 rfl ?_
        refine c_st (st' := [.int (nI (lfA g y T s pl bd Lg 8 0 0))]) (by rw [← hR, show 8 - L = 0 by omega]; rfl) ?_
        exact k_iret C A cfr_rf TY d_X5_lengthFrom_86 rfl (Nat.le_of_ble_eq_true rfl) (Nat.le_of_ble_eq_true rfl) (fun h9 F9 => ⟨rfl, fq, _, bq, rfl, hq⟩)
      · skip
        refine c_aload_n C d_X5_lengthFrom_25 2 rfl ?_
        refine c_get C d_X5_lengthFrom_26 fd_RX5_18 (k := 5) (i' := 0) rfl rfl (v := .int (nI (mK (wst g fq (wyL g y T s pl L).length bq) 41))) rfl ?_
        refine c_st (st' := [.int (nI ((wyL g y T s pl L).length))]) (rfl) ?_
        refine cn_if_le C d_X5_lengthFrom_29 (tgt := 84) rfl (by omega) (fun c_29 => ?_) (fun c_29 => ?_)
        · skip
          refine c_iload C d_X5_lengthFrom_84 1 rfl ?_
          refine c_st (st' := [.int (nI (lfA g y T s pl bd Lg 8 0 0))]) (by rw [← hR, show 8 - L = 7 - L + 1 by omega, lfA, if_pos (Or.inl c_29)]) ?_
          exact k_iret C A cfr_rf TY d_X5_lengthFrom_86 rfl (Nat.le_of_ble_eq_true rfl) (Nat.le_of_ble_eq_true rfl) (fun h9 F9 => ⟨rfl, fq, _, bq, rfl, hq⟩)
        · skip
          refine c_iload_n C d_X5_lengthFrom_32 5 rfl ?_
          refine c_iload C d_X5_lengthFrom_33 0 rfl ?_
          refine cn_iadd C d_X5_lengthFrom_35 ?_
          refine c_iconst C d_X5_lengthFrom_36 (v := (nI 1)) rfl ?_
          refine cn_isub C d_X5_lengthFrom_37 (by omega) ?_
          refine c_st (st' := [.int (nI (pl + L))]) (by rw [show pl + (L + 1) - 1 = pl + L by omega]) ?_
          refine c_istore C d_X5_lengthFrom_38 (lv' := [(8, .int (nI (pl + L))), (7, .int (nI (L + 1))), (6, .int (nI best)), (0, .ref (ad 5 0)), (1, .ref a), (2, .ref (ad 10 s)), (3, .int (nI pl)), (4, .int (nI bd)), (5, .int (bI Lg))]) (by decide) rfl ?_
          refine c_aload_n C d_X5_lengthFrom_40 5 rfl ?_
          refine c_iload_n C d_X5_lengthFrom_41 6 rfl ?_
          refine c_iload C d_X5_lengthFrom_42 0 rfl ?_
          refine c_iload C d_X5_lengthFrom_44 7 rfl ?_
          refine k_callV C d_X5_lengthFrom_46 ok_RX5_22 (k := 10) (i' := s) (fun l h hm hf => k_isWithin hm I (by omega) (by omega) (by omega) (by omega)) (decide_eq_true (by omega)) rfl rfl rfl (rest := []) rfl rfl (Nat.le_of_ble_eq_true rfl) ⟨⟨by decide, by decide⟩, Nat.le_of_ble_eq_true rfl, Nat.le_of_ble_eq_true rfl⟩ (fun v9 g9 hq1 e9 F1 => ?_)
          obtain ⟨rfl, z1⟩ := e9
          refine c_eq z1 ?_
          refine c_base F1 ?_
          show VC G x ad h (wst g fq (wyL g y T s pl L).length bq) 0 0 49 [(8, .int (nI (pl + L))), (7, .int (nI (L + 1))), (6, .int (nI best)), (0, .ref (ad 5 0)), (1, .ref a), (2, .ref (ad 10 s)), (3, .int (nI pl)), (4, .int (nI bd)), (5, .int (bI Lg))] [.int (bI (inW g s pl (pl + L) bd))]
          refine cb_if_ne C d_X5_lengthFrom_49 (tgt := 55) rfl (fun c_49 => ?_) (fun c_49 => ?_)
          · skip
            have hlt := inW_lt c_49
            have hno : ¬ ((wyL g y T s pl L).length = 0 ∨ inW g s pl (pl + L) bd = false) := by rw [c_49]; intro z; rcases z with z | z; omega; cases z
            refine c_aload_n C d_X5_lengthFrom_55 3 rfl ?_
            refine c_aload_n C d_X5_lengthFrom_56 4 rfl ?_
            refine c_aload_n C d_X5_lengthFrom_57 5 rfl ?_
            refine c_iload C d_X5_lengthFrom_58 0 rfl ?_
            refine k_callV C d_X5_lengthFrom_60 ok_RX5_28 (k := 5) (i' := 0) (fun l h hm hf => k_isWhole2 (V := (wyL g y T s pl L)) hm I (W.mv hf) hs (by omega) hL.2.2 hV (hO L (by omega) (by omega)) hq (hB L (by omega) (by omega))) rfl rfl rfl rfl (rest := []) rfl rfl (Nat.le_of_ble_eq_true rfl) ⟨⟨by decide, by decide⟩, Nat.le_of_ble_eq_true rfl, Nat.le_of_ble_eq_true rfl⟩ (fun v9 g9 hq2 e9 F2 => ?_)
            obtain ⟨rfl, z2⟩ := e9
            refine c_eq z2 ?_
            refine c_base F2 ?_
            show VC G x ad h (wst g (spf fq (70 * siB bq) (wyL g y T s pl (L + 1))) (wyL g y T s pl (L + 1)).length (!bq)) 0 0 63 [(8, .int (nI (pl + L))), (7, .int (nI (L + 1))), (6, .int (nI best)), (0, .ref (ad 5 0)), (1, .ref a), (2, .ref (ad 10 s)), (3, .int (nI pl)), (4, .int (nI bd)), (5, .int (bI Lg))] [.int (bI (whV g y T s (pl + L) (wyL g y T s pl L)))]
            refine cb_if_eq C d_X5_lengthFrom_63 (tgt := 78) rfl (fun c_63 => ?_) (fun c_63 => ?_)
            · skip
              refine cn_iinc C d_X5_lengthFrom_78 (lv' := [(7, .int (nI (L + 1 + 1))), (8, .int (nI (pl + L))), (6, .int (nI best)), (0, .ref (ad 5 0)), (1, .ref a), (2, .ref (ad 10 s)), (3, .int (nI pl)), (4, .int (nI bd)), (5, .int (bI Lg))]) 1 rfl (nI_inc _ rfl) (by decide) rfl ?_
              refine c_goto C d_X5_lengthFrom_81 (tgt := 18) rfl ?_
              refine c_lv (lv' := [(7, .int (nI (L + 1 + 1))), (6, .int (nI best)), (0, .ref (ad 5 0)), (1, .ref a), (2, .ref (ad 10 s)), (3, .int (nI pl)), (4, .int (nI bd)), (5, .int (bI Lg))]) [0, 2, 3, 4, 5, 6, 7, 8] rfl ?_
              exact ih_18 (L + 1) best (spf fq (70 * siB bq) (wyL g y T s pl (L + 1))) (!bq) (⟨by omega, by omega, hB L (by omega) (by omega)⟩) (fun j hj => by rw [wiB_not]; exact spf_in hj) (fun z hz => by unfold spf; split; exact okW_lt (hO (L + 1) (by omega) (by omega) _ (getD_mem (by omega))); exact hq z hz) (by rw [← hR, show 8 - L = 7 - L + 1 by omega, lfA, if_neg hno, if_neg (by rw [c_63]; decide), show 8 - (L + 1) = 7 - L by omega]) (by omega)
            · skip
              refine c_iload C d_X5_lengthFrom_66 1 rfl ?_
              refine c_istore C d_X5_lengthFrom_68 (lv' := [(6, .int (nI (L + 1))), (8, .int (nI (pl + L))), (7, .int (nI (L + 1))), (0, .ref (ad 5 0)), (1, .ref a), (2, .ref (ad 10 s)), (3, .int (nI pl)), (4, .int (nI bd)), (5, .int (bI Lg))]) (by decide) rfl ?_
              refine c_iload C d_X5_lengthFrom_70 8 rfl ?_
              refine cb_if_ne C d_X5_lengthFrom_72 (tgt := 78) rfl (fun c_72 => ?_) (fun c_72 => ?_)
              · skip
                refine cn_iinc C d_X5_lengthFrom_78 (lv' := [(7, .int (nI (L + 1 + 1))), (6, .int (nI (L + 1))), (8, .int (nI (pl + L))), (0, .ref (ad 5 0)), (1, .ref a), (2, .ref (ad 10 s)), (3, .int (nI pl)), (4, .int (nI bd)), (5, .int (bI Lg))]) 2 rfl (nI_inc _ rfl) (by decide) rfl ?_
                refine c_goto C d_X5_lengthFrom_81 (tgt := 18) rfl ?_
                refine c_lv (lv' := [(7, .int (nI (L + 1 + 1))), (6, .int (nI (L + 1))), (0, .ref (ad 5 0)), (1, .ref a), (2, .ref (ad 10 s)), (3, .int (nI pl)), (4, .int (nI bd)), (5, .int (bI Lg))]) [0, 1, 3, 4, 5, 6, 7, 8] rfl ?_
                exact ih_18 (L + 1) (L + 1) (spf fq (70 * siB bq) (wyL g y T s pl (L + 1))) (!bq) (⟨by omega, by omega, hB L (by omega) (by omega)⟩) (fun j hj => by rw [wiB_not]; exact spf_in hj) (fun z hz => by unfold spf; split; exact okW_lt (hO (L + 1) (by omega) (by omega) _ (getD_mem (by omega))); exact hq z hz) (by rw [← hR, show 8 - L = 7 - L + 1 by omega, lfA, if_neg hno, if_pos c_63, if_neg (by rw [c_72]; decide), show 8 - (L + 1) = 7 - L by omega]) (by omega)
              · skip
                refine c_goto C d_X5_lengthFrom_75 (tgt := 84) rfl ?_
                refine c_iload C d_X5_lengthFrom_84 0 rfl ?_
                refine c_st (st' := [.int (nI (lfA g y T s pl bd Lg 8 0 0))]) (by rw [← hR, show 8 - L = 7 - L + 1 by omega, lfA, if_neg hno, if_pos c_63, if_pos c_72]) ?_
                exact k_iret C A cfr_rf TY d_X5_lengthFrom_86 rfl (Nat.le_of_ble_eq_true rfl) (Nat.le_of_ble_eq_true rfl) (fun h9 F9 => ⟨rfl, _, _, _, rfl, fun z hz => by unfold spf; split; exact okW_lt (hO (L + 1) (by omega) (by omega) _ (getD_mem (by omega))); exact hq z hz⟩)
          · skip
            refine c_goto C d_X5_lengthFrom_52 (tgt := 84) rfl ?_
            refine c_iload C d_X5_lengthFrom_84 2 rfl ?_
            refine c_st (st' := [.int (nI (lfA g y T s pl bd Lg 8 0 0))]) (by rw [← hR, show 8 - L = 7 - L + 1 by omega, lfA, if_pos (Or.inr c_49)]) ?_
            exact k_iret C A cfr_rf TY d_X5_lengthFrom_86 rfl (Nat.le_of_ble_eq_true rfl) (Nat.le_of_ble_eq_true rfl) (fun h9 F9 => ⟨rfl, fq, _, bq, rfl, hq⟩)
  refine c_eq (g' := wst g (fun z => if z = 70 * wiB bb + 0 then 0 else f z) (wyL g y T s pl 0).length bb) (wst_0) ?_
  exact loop_18 _ 0 0 (fun z => if z = 70 * wiB bb + 0 then 0 else f z) bb (⟨by omega, by omega, by show 1 ≤ 70; omega⟩) (fun j hj => by have hj1 : j < 1 := hj; rw [if_pos (by omega), show j = 0 by omega]; rfl) (fun z hz => by show (if z = 70 * wiB bb + 0 then 0 else f z) < 4194304; split; omega; exact hfb z hz) (rfl) (Nat.lt_succ_self _)
