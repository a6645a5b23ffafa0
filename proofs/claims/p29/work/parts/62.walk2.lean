theorem tw_368 : (Jvm.Cond.fieldLink "Corpusline$Walker" (48 : Nat) "Corpusline$Part" "lasts" "I") ∈ TB := tb_of 368 (by decide +kernel) rfl
theorem tw_510 : (Jvm.Cond.methodLink "Corpusline$Walker" (38 : Nat) ({ cls := "Corpusline$TokenTest", name := "hasPassingValues", desc := "(LCorpusline$Side;I)Z" } : Jvm.MethodName)) ∈ TB := tb_of 510 (by decide +kernel) rfl
theorem tw_511 : (Jvm.Cond.instanceMethod ({ cls := "Corpusline$TokenTest", name := "hasPassingValues", desc := "(LCorpusline$Side;I)Z" } : Jvm.MethodName)) ∈ TB := tb_of 511 (by decide +kernel) rfl
theorem tw_512 : (Jvm.Cond.selects "Corpusline$TokenTest" ({ cls := "Corpusline$TokenTest", name := "hasPassingValues", desc := "(LCorpusline$Side;I)Z" } : Jvm.MethodName) ({ cls := "Corpusline$TokenTest", name := "hasPassingValues", desc := "(LCorpusline$Side;I)Z" } : Jvm.MethodName)) ∈ TB := tb_of 512 (by decide +kernel) rfl
theorem tw_513 : (Jvm.Cond.code ({ cls := "Corpusline$TokenTest", name := "hasPassingValues", desc := "(LCorpusline$Side;I)Z" } : Jvm.MethodName) prog_6_method_7_code (7 : Nat) (Option.some Jvm.ClassFile.FieldType.boolean)) ∈ TB := tb_of 513 (by decide +kernel) rfl
theorem tw_515 : (Jvm.Cond.methodLink "Corpusline$Walker" (44 : Nat) ({ cls := "Corpusline$Walker", name := "addWaysThrough", desc := "(LCorpusline$Part;ILCorpusline$Side;II)I" } : Jvm.MethodName)) ∈ TB := tb_of 515 (by decide +kernel) rfl
theorem tw_517 : (Jvm.Cond.instanceMethod ({ cls := "Corpusline$Walker", name := "addWaysThrough", desc := "(LCorpusline$Part;ILCorpusline$Side;II)I" } : Jvm.MethodName)) ∈ TB := tb_of 517 (by decide +kernel) rfl
theorem tw_518 : (Jvm.Cond.code ({ cls := "Corpusline$Walker", name := "addWaysThrough", desc := "(LCorpusline$Part;ILCorpusline$Side;II)I" } : Jvm.MethodName) prog_7_method_4_code (12 : Nat) (Option.some Jvm.ClassFile.FieldType.int)) ∈ TB := tb_of 518 (by decide +kernel) rfl
theorem ts_12 : Cond.selects "Corpusline$Walker" ({ cls := "Corpusline$Walker", name := "addWaysThrough", desc := "(LCorpusline$Part;ILCorpusline$Side;II)I" } : MethodName) ({ cls := "Corpusline$Walker", name := "addWaysThrough", desc := "(LCorpusline$Part;ILCorpusline$Side;II)I" } : MethodName) ∈ TB := tb_sel 12 (by decide +kernel) rfl
theorem fd_RX5_48 : fdOk RX5 48 0 3 := ⟨_, _, _, rfl, by decide, cw_0, tw_368, rfl⟩
theorem ok_RX5_38 : okV RX5 38 yX4_hasPassingValues cX4_hasPassingValues 7 (Option.some Jvm.ClassFile.FieldType.boolean) 2 := ⟨tw_510, tw_511, tw_512, tw_12, tw_513, ⟨by decide, by decide, by decide +kernel⟩⟩
theorem ok_RX5_44 : okV RX5 44 yX5_addWaysThrough cX5_addWaysThrough 12 (Option.some Jvm.ClassFile.FieldType.int) 5 := ⟨tw_515, tw_517, ts_12, tw_2, tw_518, ⟨by decide, by decide, by decide +kernel⟩⟩
theorem adR_congr {a : Nat → Option Nat} {u v : Nat → Nat} : ∀ {k : Nat}, (∀ j, j < k → u j = v j) → adR a u k = adR a v k
  | 0, _ => rfl
  | k + 1, h => by rw [adR, adR, adR_congr (fun j hj => h j (by omega)), h k (by omega)]
theorem k_addWays2 {l : Launch} {G : eG} {ad : Nat → Nat → Nat} {h : hp} {g : mS} {f : Nat → Nat} {kc s p num a : Nat} {bb is : Bool} {y : pA} {T : Nat → tC3} {A : List Nat} (hm : co G ad (wst g (spf f (70 * siB bb) A) kc bb) h) (I : mInv g) (W : wkA G ad h T a y is) (hs : s < 2) (hp : p < 40) (hnum : num < y.1) (hkc : kc ≤ 70) (hok : ∀ j, j < kc → okW y.1 (f (70 * wiB bb + j))) (hfb : ∀ z, z < 140 → f z < 4194304) (hA : A.length + (adR (ad1 g y (T (y.2.2.2.2.2.2 num)) s p num) (fun j => f (70 * wiB bb + j)) kc).length ≤ 70) (hAe : ∀ v, v ∈ A → v < 4194304) : kC l G ad h yX5_addWaysThrough cX5_addWaysThrough 12 (Option.some Jvm.ClassFile.FieldType.int) { frames := 3, cells := 0, slots := 0, locals := 66 } [.ref (ad 5 0), .ref a, .int (nI num), .ref (ad 10 s), .int (nI p), .int (nI A.length)] (fun v9 g9 _ => v9 = some (.int (nI (A.length + (adR (ad1 g y (T (y.2.2.2.2.2.2 num)) s p num) (fun j => f (70 * wiB bb + j)) kc).length))) ∧ g9 = wst g (spf f (70 * siB bb) (A ++ adR (ad1 g y (T (y.2.2.2.2.2.2 num)) s p num) (fun j => f (70 * wiB bb + j)) kc)) kc bb) := by
  have hb := wsb bb
  have e0 : ∀ j, j < kc → spf f (70 * siB bb) A (70 * wiB bb + j) = f (70 * wiB bb + j) := fun j hj => spf_out (by omega)
  have e : adR (ad1 g y (T (y.2.2.2.2.2.2 num)) s p num) (fun j => spf f (70 * siB bb) A (70 * wiB bb + j)) kc = adR (ad1 g y (T (y.2.2.2.2.2.2 num)) s p num) (fun j => f (70 * wiB bb + j)) kc := adR_congr e0
  have k := k_addWays (l := l) (f := spf f (70 * siB bb) A) (fr := A.length) hm I W hs hp hnum hkc (fun j hj => by show okW y.1 (spf f (70 * siB bb) A (70 * wiB bb + j)); rw [e0 j hj]; exact hok j hj) (fun z hz => by
    unfold spf
    split
    · exact hAe _ (getD_mem (by omega))
    · exact hfb z hz) (by rw [e]; exact hA)
  simp only [e, spf_spf] at k
  exact k
/-- whether a token has the values that a pattern's test wants -/
def psG (g : mS) (y : pA) (T : Nat → tC3) (s p i : Nat) : Bool := allTo (paF g (T (y.2.2.2.2.2.2 i)).1 s p) 3
/-- the ways behind a token -/
def psL (g : mS) (y : pA) (T : Nat → tC3) (s p : Nat) (wv : Nat → Nat) (kc : Nat) : Nat → List Nat
  | 0 => []
  | i + 1 => psL g y T s p wv kc i ++ (if psG g y T s p i = true then adR (ad1 g y (T (y.2.2.2.2.2.2 i)) s p i) wv kc else [])
def whL (g : mS) (y : pA) (T : Nat → tC3) (s p : Nat) (wv : Nat → Nat) (kc : Nat) : Nat → Bool
  | 0 => false
  | i + 1 => whL g y T s p wv kc i || (psG g y T s p i && (decide (0 < (adR (ad1 g y (T (y.2.2.2.2.2.2 i)) s p i) wv kc).length) && decide (y.2.2.1 / 2 ^ i % 2 = 1)))
theorem psL_le {g : mS} {y : pA} {T : Nat → tC3} {s p : Nat} {wv : Nat → Nat} {kc i : Nat} : ∀ j, (psL g y T s p wv kc i).length ≤ (psL g y T s p wv kc (i + j)).length
  | 0 => Nat.le_refl _
  | j + 1 => Nat.le_trans (psL_le j) (by rw [← Nat.add_assoc, psL, List.length_append]; exact Nat.le_add_right _ _)
theorem psL_mem {g : mS} {y : pA} {T : Nat → tC3} {s p : Nat} {wv : Nat → Nat} {kc v : Nat} : ∀ {i}, v ∈ psL g y T s p wv kc i ↔ ∃ j, j < i ∧ psG g y T s p j = true ∧ v ∈ adR (ad1 g y (T (y.2.2.2.2.2.2 j)) s p j) wv kc
  | 0 => ⟨fun h => (by cases h), fun ⟨j, h, _⟩ => absurd h (Nat.not_lt_zero _)⟩
  | i + 1 => by
    rw [psL, List.mem_append, psL_mem]
    constructor
    · rintro (⟨j, h1, h2⟩ | h)
      · exact ⟨j, by omega, h2⟩
      · split at h
        · exact ⟨i, by omega, by assumption, h⟩
        · cases h
    · rintro ⟨j, h1, h2, h3⟩
      by_cases e : j = i
      · subst e; right; rw [if_pos h2]; exact h3
      · exact Or.inl ⟨j, by omega, h2, h3⟩
theorem psL_lt {g : mS} {y : pA} {T : Nat → tC3} {s p : Nat} {wv : Nat → Nat} {kc v i : Nat} (h : v ∈ psL g y T s p wv kc i) (hr : y.2.2.2.1 < 262144) (hi : i ≤ 8) : v < 4194304 := by
  obtain ⟨j, h1, _, h3⟩ := psL_mem.mp h
  exact adR_lt h3 hr (by omega)
theorem psL_y {g : mS} {y : pA} {T : Nat → tC3} {s p : Nat} {wv : Nat → Nat} {kc i : Nat} (h : psG g y T s p i = true) : psL g y T s p wv kc (i + 1) = psL g y T s p wv kc i ++ adR (ad1 g y (T (y.2.2.2.2.2.2 i)) s p i) wv kc := by rw [psL, if_pos h]
theorem psL_n {g : mS} {y : pA} {T : Nat → tC3} {s p : Nat} {wv : Nat → Nat} {kc i : Nat} (h : psG g y T s p i = false) : psL g y T s p wv kc (i + 1) = psL g y T s p wv kc i := by rw [psL, if_neg (by rw [h]; decide), List.append_nil]
theorem wst_swap {g : mS} {f : Nat → Nat} {k k' : Nat} {b c : Bool} : uK (uB (uB (wst g f k b) 30 0 c) 31 0 c) 41 k' = wst g f k' c := mS_ext (fun j => by
    show (if j = 41 then k' else if j = 41 then k else mK g j) = if j = 41 then k' else mK g j
    split <;> rfl) (fun _ _ => rfl) (fun j i => by
    show (if j = 31 ∧ i = 0 then c else if j = 30 ∧ i = 0 then c else if j = 31 ∧ i = 0 then b else if j = 30 ∧ i = 0 then b else mB g j i) = if j = 31 ∧ i = 0 then c else if j = 30 ∧ i = 0 then c else mB g j i
    split
    · rfl
    · split
      · rfl
      · rfl) (fun _ _ => rfl)
def dl_X5_isWholeBehind : List (Nat × Instr × Nat) := [(0, .iconst 0, 1), (1, .istore 4, 2), (3, .iconst 0, 1), (4, .istore 5, 2), (6, .iconst 0, 1), (7, .istore 6, 2), (9, .iload 6, 2), (11, .aload_n 1, 1), (12, .getfield 32, 3), (15, .arraylength, 1), (16, .if_icmp .ge 72, 3), (19, .aload_n 1, 1), (20, .getfield 32, 3), (23, .iload 6, 2), (25, .aaload, 1), (26, .aload_n 2, 1), (27, .iload_n 3, 1), (28, .invokevirtual 38, 3), (31, .ifCond .eq 51, 3), (34, .iload 5, 2), (36, .istore 7, 2), (38, .aload_n 0, 1), (39, .aload_n 1, 1), (40, .iload 6, 2), (42, .aload_n 2, 1), (43, .iload_n 3, 1), (44, .iload 5, 2), (46, .invokevirtual 44, 3), (49, .istore 5, 2), (51, .iload 4, 2), (53, .ifCond .ne 22, 3), (56, .iload 5, 2), (58, .iload 7, 2), (60, .if_icmp .le 19, 3), (63, .aload_n 1, 1), (64, .getfield 48, 3), (67, .iload 6, 2), (69, .ishr, 1), (70, .iconst 1, 1), (71, .iand, 1), (72, .ifCond .eq 7, 3), (75, .iconst 1, 1), (76, .goto 4, 3), (79, .iconst 0, 1), (80, .istore 4, 2), (82, .iinc 6 1, 3), (85, .goto (-76), 3), (88, .aload_n 0, 1), (89, .getfield 11, 3), (92, .astore 6, 2), (94, .aload_n 0, 1), (95, .aload_n 0, 1), (96, .getfield 15, 3), (99, .putfield 11, 3), (102, .aload_n 0, 1), (103, .aload 6, 2), (105, .putfield 15, 3), (108, .aload_n 0, 1), (109, .iload 5, 2), (111, .putfield 18, 3), (114, .iload 4, 2), (116, .ireturn, 1)]
theorem dc_X5_isWholeBehind : dnL cX5_isWholeBehind dl_X5_isWholeBehind = true := by decide +kernel
theorem d_X5_isWholeBehind_0 : dn cX5_isWholeBehind 0 (.iconst 0) 1 1 := dnAt dc_X5_isWholeBehind 0 rfl rfl
theorem d_X5_isWholeBehind_1 : dn cX5_isWholeBehind 1 (.istore 4) 2 3 := dnAt dc_X5_isWholeBehind 1 rfl rfl
theorem d_X5_isWholeBehind_3 : dn cX5_isWholeBehind 3 (.iconst 0) 1 4 := dnAt dc_X5_isWholeBehind 2 rfl rfl
theorem d_X5_isWholeBehind_4 : dn cX5_isWholeBehind 4 (.istore 5) 2 6 := dnAt dc_X5_isWholeBehind 3 rfl rfl
theorem d_X5_isWholeBehind_6 : dn cX5_isWholeBehind 6 (.iconst 0) 1 7 := dnAt dc_X5_isWholeBehind 4 rfl rfl
theorem d_X5_isWholeBehind_7 : dn cX5_isWholeBehind 7 (.istore 6) 2 9 := dnAt dc_X5_isWholeBehind 5 rfl rfl
theorem d_X5_isWholeBehind_9 : dn cX5_isWholeBehind 9 (.iload 6) 2 11 := dnAt dc_X5_isWholeBehind 6 rfl rfl
theorem d_X5_isWholeBehind_11 : dn cX5_isWholeBehind 11 (.aload_n 1) 1 12 := dnAt dc_X5_isWholeBehind 7 rfl rfl
theorem d_X5_isWholeBehind_12 : dn cX5_isWholeBehind 12 (.getfield 32) 3 15 := dnAt dc_X5_isWholeBehind 8 rfl rfl
theorem d_X5_isWholeBehind_15 : dn cX5_isWholeBehind 15 (.arraylength) 1 16 := dnAt dc_X5_isWholeBehind 9 rfl rfl
theorem d_X5_isWholeBehind_16 : dn cX5_isWholeBehind 16 (.if_icmp .ge 72) 3 19 := dnAt dc_X5_isWholeBehind 10 rfl rfl
theorem d_X5_isWholeBehind_19 : dn cX5_isWholeBehind 19 (.aload_n 1) 1 20 := dnAt dc_X5_isWholeBehind 11 rfl rfl
theorem d_X5_isWholeBehind_20 : dn cX5_isWholeBehind 20 (.getfield 32) 3 23 := dnAt dc_X5_isWholeBehind 12 rfl rfl
theorem d_X5_isWholeBehind_23 : dn cX5_isWholeBehind 23 (.iload 6) 2 25 := dnAt dc_X5_isWholeBehind 13 rfl rfl
theorem d_X5_isWholeBehind_25 : dn cX5_isWholeBehind 25 (.aaload) 1 26 := dnAt dc_X5_isWholeBehind 14 rfl rfl
theorem d_X5_isWholeBehind_26 : dn cX5_isWholeBehind 26 (.aload_n 2) 1 27 := dnAt dc_X5_isWholeBehind 15 rfl rfl
theorem d_X5_isWholeBehind_27 : dn cX5_isWholeBehind 27 (.iload_n 3) 1 28 := dnAt dc_X5_isWholeBehind 16 rfl rfl
theorem d_X5_isWholeBehind_28 : dn cX5_isWholeBehind 28 (.invokevirtual 38) 3 31 := dnAt dc_X5_isWholeBehind 17 rfl rfl
theorem d_X5_isWholeBehind_31 : dn cX5_isWholeBehind 31 (.ifCond .eq 51) 3 34 := dnAt dc_X5_isWholeBehind 18 rfl rfl
theorem d_X5_isWholeBehind_34 : dn cX5_isWholeBehind 34 (.iload 5) 2 36 := dnAt dc_X5_isWholeBehind 19 rfl rfl
theorem d_X5_isWholeBehind_36 : dn cX5_isWholeBehind 36 (.istore 7) 2 38 := dnAt dc_X5_isWholeBehind 20 rfl rfl
theorem d_X5_isWholeBehind_38 : dn cX5_isWholeBehind 38 (.aload_n 0) 1 39 := dnAt dc_X5_isWholeBehind 21 rfl rfl
theorem d_X5_isWholeBehind_39 : dn cX5_isWholeBehind 39 (.aload_n 1) 1 40 := dnAt dc_X5_isWholeBehind 22 rfl rfl
theorem d_X5_isWholeBehind_40 : dn cX5_isWholeBehind 40 (.iload 6) 2 42 := dnAt dc_X5_isWholeBehind 23 rfl rfl
theorem d_X5_isWholeBehind_42 : dn cX5_isWholeBehind 42 (.aload_n 2) 1 43 := dnAt dc_X5_isWholeBehind 24 rfl rfl
theorem d_X5_isWholeBehind_43 : dn cX5_isWholeBehind 43 (.iload_n 3) 1 44 := dnAt dc_X5_isWholeBehind 25 rfl rfl
theorem d_X5_isWholeBehind_44 : dn cX5_isWholeBehind 44 (.iload 5) 2 46 := dnAt dc_X5_isWholeBehind 26 rfl rfl
theorem d_X5_isWholeBehind_46 : dn cX5_isWholeBehind 46 (.invokevirtual 44) 3 49 := dnAt dc_X5_isWholeBehind 27 rfl rfl
theorem d_X5_isWholeBehind_49 : dn cX5_isWholeBehind 49 (.istore 5) 2 51 := dnAt dc_X5_isWholeBehind 28 rfl rfl
theorem d_X5_isWholeBehind_51 : dn cX5_isWholeBehind 51 (.iload 4) 2 53 := dnAt dc_X5_isWholeBehind 29 rfl rfl
theorem d_X5_isWholeBehind_53 : dn cX5_isWholeBehind 53 (.ifCond .ne 22) 3 56 := dnAt dc_X5_isWholeBehind 30 rfl rfl
theorem d_X5_isWholeBehind_56 : dn cX5_isWholeBehind 56 (.iload 5) 2 58 := dnAt dc_X5_isWholeBehind 31 rfl rfl
theorem d_X5_isWholeBehind_58 : dn cX5_isWholeBehind 58 (.iload 7) 2 60 := dnAt dc_X5_isWholeBehind 32 rfl rfl
theorem d_X5_isWholeBehind_60 : dn cX5_isWholeBehind 60 (.if_icmp .le 19) 3 63 := dnAt dc_X5_isWholeBehind 33 rfl rfl
theorem d_X5_isWholeBehind_63 : dn cX5_isWholeBehind 63 (.aload_n 1) 1 64 := dnAt dc_X5_isWholeBehind 34 rfl rfl
theorem d_X5_isWholeBehind_64 : dn cX5_isWholeBehind 64 (.getfield 48) 3 67 := dnAt dc_X5_isWholeBehind 35 rfl rfl
theorem d_X5_isWholeBehind_67 : dn cX5_isWholeBehind 67 (.iload 6) 2 69 := dnAt dc_X5_isWholeBehind 36 rfl rfl
theorem d_X5_isWholeBehind_69 : dn cX5_isWholeBehind 69 (.ishr) 1 70 := dnAt dc_X5_isWholeBehind 37 rfl rfl
theorem d_X5_isWholeBehind_70 : dn cX5_isWholeBehind 70 (.iconst 1) 1 71 := dnAt dc_X5_isWholeBehind 38 rfl rfl
theorem d_X5_isWholeBehind_71 : dn cX5_isWholeBehind 71 (.iand) 1 72 := dnAt dc_X5_isWholeBehind 39 rfl rfl
theorem d_X5_isWholeBehind_72 : dn cX5_isWholeBehind 72 (.ifCond .eq 7) 3 75 := dnAt dc_X5_isWholeBehind 40 rfl rfl
theorem d_X5_isWholeBehind_75 : dn cX5_isWholeBehind 75 (.iconst 1) 1 76 := dnAt dc_X5_isWholeBehind 41 rfl rfl
theorem d_X5_isWholeBehind_76 : dn cX5_isWholeBehind 76 (.goto 4) 3 79 := dnAt dc_X5_isWholeBehind 42 rfl rfl
theorem d_X5_isWholeBehind_79 : dn cX5_isWholeBehind 79 (.iconst 0) 1 80 := dnAt dc_X5_isWholeBehind 43 rfl rfl
theorem d_X5_isWholeBehind_80 : dn cX5_isWholeBehind 80 (.istore 4) 2 82 := dnAt dc_X5_isWholeBehind 44 rfl rfl
theorem d_X5_isWholeBehind_82 : dn cX5_isWholeBehind 82 (.iinc 6 1) 3 85 := dnAt dc_X5_isWholeBehind 45 rfl rfl
theorem d_X5_isWholeBehind_85 : dn cX5_isWholeBehind 85 (.goto (-76)) 3 88 := dnAt dc_X5_isWholeBehind 46 rfl rfl
theorem d_X5_isWholeBehind_88 : dn cX5_isWholeBehind 88 (.aload_n 0) 1 89 := dnAt dc_X5_isWholeBehind 47 rfl rfl
theorem d_X5_isWholeBehind_89 : dn cX5_isWholeBehind 89 (.getfield 11) 3 92 := dnAt dc_X5_isWholeBehind 48 rfl rfl
theorem d_X5_isWholeBehind_92 : dn cX5_isWholeBehind 92 (.astore 6) 2 94 := dnAt dc_X5_isWholeBehind 49 rfl rfl
theorem d_X5_isWholeBehind_94 : dn cX5_isWholeBehind 94 (.aload_n 0) 1 95 := dnAt dc_X5_isWholeBehind 50 rfl rfl
theorem d_X5_isWholeBehind_95 : dn cX5_isWholeBehind 95 (.aload_n 0) 1 96 := dnAt dc_X5_isWholeBehind 51 rfl rfl
theorem d_X5_isWholeBehind_96 : dn cX5_isWholeBehind 96 (.getfield 15) 3 99 := dnAt dc_X5_isWholeBehind 52 rfl rfl
theorem d_X5_isWholeBehind_99 : dn cX5_isWholeBehind 99 (.putfield 11) 3 102 := dnAt dc_X5_isWholeBehind 53 rfl rfl
theorem d_X5_isWholeBehind_102 : dn cX5_isWholeBehind 102 (.aload_n 0) 1 103 := dnAt dc_X5_isWholeBehind 54 rfl rfl
theorem d_X5_isWholeBehind_103 : dn cX5_isWholeBehind 103 (.aload 6) 2 105 := dnAt dc_X5_isWholeBehind 55 rfl rfl
theorem d_X5_isWholeBehind_105 : dn cX5_isWholeBehind 105 (.putfield 15) 3 108 := dnAt dc_X5_isWholeBehind 56 rfl rfl
theorem d_X5_isWholeBehind_108 : dn cX5_isWholeBehind 108 (.aload_n 0) 1 109 := dnAt dc_X5_isWholeBehind 57 rfl rfl
theorem d_X5_isWholeBehind_109 : dn cX5_isWholeBehind 109 (.iload 5) 2 111 := dnAt dc_X5_isWholeBehind 58 rfl rfl
theorem d_X5_isWholeBehind_111 : dn cX5_isWholeBehind 111 (.putfield 18) 3 114 := dnAt dc_X5_isWholeBehind 59 rfl rfl
theorem d_X5_isWholeBehind_114 : dn cX5_isWholeBehind 114 (.iload 4) 2 116 := dnAt dc_X5_isWholeBehind 60 rfl rfl
theorem d_X5_isWholeBehind_116 : dn cX5_isWholeBehind 116 (.ireturn) 1 117 := dnAt dc_X5_isWholeBehind 61 rfl rfl
set_option maxHeartbeats 4000000 in
set_option maxRecDepth 100000 in
theorem k_isWhole {l : Launch} {G : eG} {ad : Nat → Nat → Nat} {h : hp} {g : mS} {f : Nat → Nat} {kc s p a : Nat} {bb is : Bool} {y : pA} {T : Nat → tC3} (hm : co G ad (wst g f kc bb) h) (I : mInv g) (W : wkA G ad h T a y is) (hs : s < 2) (hp : p < 40) (hkc : kc ≤ 70) (hok : ∀ j, j < kc → okW y.1 (f (70 * wiB bb + j))) (hfb : ∀ z, z < 140 → f z < 4194304) (hA : (psL g y T s p (fun j => f (70 * wiB bb + j)) kc y.1).length ≤ 70) : kC l G ad h yX5_isWholeBehind cX5_isWholeBehind 8 (Option.some Jvm.ClassFile.FieldType.boolean) { frames := 4, cells := 0, slots := 0, locals := 97 } [.ref (ad 5 0), .ref a, .ref (ad 10 s), .int (nI p)] (fun v9 g9 _ => v9 = some (.int (bI (whL g y T s p (fun j => f (70 * wiB bb + j)) kc y.1))) ∧ g9 = wst g (spf f (70 * siB bb) (psL g y T s p (fun j => f (70 * wiB bb + j)) kc y.1)) (psL g y T s p (fun j => f (70 * wiB bb + j)) kc y.1).length (!bb)) := by
  refine kC.of hm (by decide) (Nat.le_of_ble_eq_true rfl) ?_
  intro x C A TY
  show VC G x ad h (wst g f kc bb) 0 0 0 [(0, .ref (ad 5 0)), (1, .ref a), (2, .ref (ad 10 s)), (3, .int (nI p))] []
  obtain ⟨W1, W2, W3⟩ := id W
  obtain ⟨na, pt, pn, n1, n2, h1, h2, h3⟩ := id W1
  have hn8 := W2.1.2
  refine c_iconst C d_X5_isWholeBehind_0 (v := (nI 0)) rfl ?_
  refine c_istore C d_X5_isWholeBehind_1 (lv' := [(4, .int (nI 0)), (0, .ref (ad 5 0)), (1, .ref a), (2, .ref (ad 10 s)), (3, .int (nI p))]) (by decide) rfl ?_
  refine c_iconst C d_X5_isWholeBehind_3 (v := (nI 0)) rfl ?_
  refine c_istore C d_X5_isWholeBehind_4 (lv' := [(5, .int (nI 0)), (4, .int (nI 0)), (0, .ref (ad 5 0)), (1, .ref a), (2, .ref (ad 10 s)), (3, .int (nI p))]) (by decide) rfl ?_
  refine c_iconst C d_X5_isWholeBehind_6 (v := (nI 0)) rfl ?_
  refine c_istore C d_X5_isWholeBehind_7 (lv' := [(6, .int (nI 0)), (5, .int (nI 0)), (4, .int (nI 0)), (0, .ref (ad 5 0)), (1, .ref a), (2, .ref (ad 10 s)), (3, .int (nI p))]) (by decide) rfl ?_
  have loop_9 : ∀ (fuel : Nat) (k : Nat), (k ≤ y.1) → (9 - k) < fuel → VC G x ad h (wst g (spf f (70 * siB bb) (psL g y T s p (fun j => f (70 * wiB bb + j)) kc k)) kc bb) 0 0 9 [(6, .int (nI k)), (5, .int (nI ((psL g y T s p (fun j => f (70 * wiB bb + j)) kc k).length))), (4, .int (bI (whL g y T s p (fun j => f (70 * wiB bb + j)) kc k))), (0, .ref (ad 5 0)), (1, .ref a), (2, .ref (ad 10 s)), (3, .int (nI p))] [] := by
    intro fuel
    induction fuel with
    | zero => intro k hk hf9; exact absurd hf9 (Nat.not_lt_zero _)
    | succ fuel ih_9 =>
      intro k hk hf9
      refine c_iload C d_X5_isWholeBehind_9 0 rfl ?_
      refine c_aload_n C d_X5_isWholeBehind_11 4 rfl ?_
      refine c_getN C d_X5_isWholeBehind_12 fd_RX5_32 (na) (h1) (v := .ref pt) rfl ?_
      refine c_alenN C d_X5_isWholeBehind_15 rfl (n1) (h2) ?_
      refine cn_icmp_ge C d_X5_isWholeBehind_16 (tgt := 88) rfl (by omega) (by omega) (fun c_16 => ?_) (fun c_16 => ?_)
      · skip
        have e9 : k = y.1 := by omega
        refine c_aload_n C d_X5_isWholeBehind_88 3 rfl ?_
        refine c_get C d_X5_isWholeBehind_89 fd_RX5_11 (k := 5) (i' := 0) rfl rfl (v := .ref (ad 7 (wi (wst g (spf f (70 * siB bb) (psL g y T s p (fun j => f (70 * wiB bb + j)) kc k)) kc bb)))) rfl ?_
        refine c_st (st' := [.ref (ad 7 (wiB bb))]) (rfl) ?_
        refine c_astore C d_X5_isWholeBehind_92 (lv' := [(6, .ref (ad 7 (wiB bb))), (5, .int (nI ((psL g y T s p (fun j => f (70 * wiB bb + j)) kc k).length))), (4, .int (bI (whL g y T s p (fun j => f (70 * wiB bb + j)) kc k))), (0, .ref (ad 5 0)), (1, .ref a), (2, .ref (ad 10 s)), (3, .int (nI p))]) (by decide) rfl ?_
        refine c_aload_n C d_X5_isWholeBehind_94 3 rfl ?_
        refine c_aload_n C d_X5_isWholeBehind_95 3 rfl ?_
        refine c_get C d_X5_isWholeBehind_96 fd_RX5_15 (k := 5) (i' := 0) rfl rfl (v := .ref (ad 7 (si (wst g (spf f (70 * siB bb) (psL g y T s p (fun j => f (70 * wiB bb + j)) kc k)) kc bb)))) rfl ?_
        refine c_st (st' := [.ref (ad 7 (siB bb)), .ref (ad 5 0)]) (rfl) ?_
        refine c_put C d_X5_isWholeBehind_99 pf_RX5_11 (k := 5) (i' := 0) (g' := uB (wst g (spf f (70 * siB bb) (psL g y T s p (fun j => f (70 * wiB bb + j)) kc k)) kc bb) 30 0 (!bb)) rfl rfl rfl rfl (Nat.le_of_ble_eq_true rfl) rfl (by cases bb <;> rfl) (oth_B (Or.inl ⟨rfl, rfl, rfl⟩)) ?_
        refine c_aload_n C d_X5_isWholeBehind_102 3 rfl ?_
        refine c_aload C d_X5_isWholeBehind_103 0 rfl ?_
        refine c_put C d_X5_isWholeBehind_105 pf_RX5_15 (k := 5) (i' := 0) (g' := uB (uB (wst g (spf f (70 * siB bb) (psL g y T s p (fun j => f (70 * wiB bb + j)) kc k)) kc bb) 30 0 (!bb)) 31 0 (!bb)) rfl rfl rfl rfl (Nat.le_of_ble_eq_true rfl) rfl (by cases bb <;> rfl) (oth_B (Or.inr (Or.inl ⟨rfl, rfl, rfl⟩))) ?_
        refine c_aload_n C d_X5_isWholeBehind_108 3 rfl ?_
        refine c_iload C d_X5_isWholeBehind_109 1 rfl ?_
        refine c_put C d_X5_isWholeBehind_111 pf_RX5_18 (k := 5) (i' := 0) (g' := uK (uB (uB (wst g (spf f (70 * siB bb) (psL g y T s p (fun j => f (70 * wiB bb + j)) kc k)) kc bb) 30 0 (!bb)) 31 0 (!bb)) 41 ((psL g y T s p (fun j => f (70 * wiB bb + j)) kc k).length)) rfl rfl rfl rfl (Nat.le_of_ble_eq_true rfl) rfl (rfl) (oth_K (by decide) rfl) ?_
        refine c_iload C d_X5_isWholeBehind_114 2 rfl ?_
        refine c_st (st' := [.int (bI (whL g y T s p (fun j => f (70 * wiB bb + j)) kc y.1))]) (by rw [e9]) ?_
        exact k_iret C A cfr_rf TY d_X5_isWholeBehind_116 (bI_nar _) (Nat.le_of_ble_eq_true rfl) (Nat.le_of_ble_eq_true rfl) (fun h9 F9 => ⟨rfl, by rw [e9]; exact wst_swap⟩)
      · skip
        obtain ⟨⟨t1, t2, t3⟩, t4⟩ := W3 k (by omega)
        obtain ⟨nt, pp, np, ht, hpp⟩ := id t1
        have hb := wsb bb
        have hL := psL_le (g := g) (y := y) (T := T) (s := s) (p := p) (wv := (fun j => f (70 * wiB bb + j))) (kc := kc) (i := k) (y.1 - k)
        have hL2 := psL_le (g := g) (y := y) (T := T) (s := s) (p := p) (wv := (fun j => f (70 * wiB bb + j))) (kc := kc) (i := k + 1) (y.1 - (k + 1))
        rw [show k + (y.1 - k) = y.1 by omega] at hL
        rw [show k + 1 + (y.1 - (k + 1)) = y.1 by omega] at hL2
        refine c_aload_n C d_X5_isWholeBehind_19 4 rfl ?_
        refine c_getN C d_X5_isWholeBehind_20 fd_RX5_32 (na) (h1) (v := .ref pt) rfl ?_
        refine c_iload C d_X5_isWholeBehind_23 0 rfl ?_
        refine c_aaldN C d_X5_isWholeBehind_25 rfl (n1) (h2) (by omega) (by omega) (if_pos (by omega)) ?_
        refine c_aload_n C d_X5_isWholeBehind_26 5 rfl ?_
        refine c_iload_n C d_X5_isWholeBehind_27 6 rfl ?_
        refine k_callW C d_X5_isWholeBehind_28 ok_RX5_38 (fun l h hm hf => k_hasPassing hm (t1.mv hf) (wst_I I) hs hp t4) (nt) (ht) rfl rfl (rest := []) rfl rfl (Nat.le_of_ble_eq_true rfl) ⟨⟨by decide, by decide⟩, Nat.le_of_ble_eq_true rfl, Nat.le_of_ble_eq_true rfl⟩ (fun v9 g9 hq1 e9 F1 => ?_)
        obtain ⟨rfl, z1⟩ := e9
        refine c_eq z1 ?_
        refine c_base F1 ?_
        show VC G x ad h (wst g (spf f (70 * siB bb) (psL g y T s p (fun j => f (70 * wiB bb + j)) kc k)) kc bb) 0 0 31 [(6, .int (nI k)), (5, .int (nI ((psL g y T s p (fun j => f (70 * wiB bb + j)) kc k).length))), (4, .int (bI (whL g y T s p (fun j => f (70 * wiB bb + j)) kc k))), (0, .ref (ad 5 0)), (1, .ref a), (2, .ref (ad 10 s)), (3, .int (nI p))] [.int (bI (psG g y T s p k))]
        have join_82 : VC G x ad h (wst g (spf f (70 * siB bb) (psL g y T s p (fun j => f (70 * wiB bb + j)) kc (k + 1))) kc bb) 0 0 82 [(6, .int (nI k)), (5, .int (nI ((psL g y T s p (fun j => f (70 * wiB bb + j)) kc (k + 1)).length))), (4, .int (bI (whL g y T s p (fun j => f (70 * wiB bb + j)) kc (k + 1)))), (0, .ref (ad 5 0)), (1, .ref a), (2, .ref (ad 10 s)), (3, .int (nI p))] [] := by
          refine cn_iinc C d_X5_isWholeBehind_82 (lv' := [(6, .int (nI (k + 1))), (5, .int (nI ((psL g y T s p (fun j => f (70 * wiB bb + j)) kc (k + 1)).length))), (4, .int (bI (whL g y T s p (fun j => f (70 * wiB bb + j)) kc (k + 1)))), (0, .ref (ad 5 0)), (1, .ref a), (2, .ref (ad 10 s)), (3, .int (nI p))]) 0 rfl (nI_inc _ rfl) (by decide) rfl ?_
          refine c_goto C d_X5_isWholeBehind_85 (tgt := 9) rfl ?_
          exact ih_9 (k + 1) (by omega) (by omega)
        refine cb_if_eq C d_X5_isWholeBehind_31 (tgt := 82) rfl (fun c_31 => ?_) (fun c_31 => ?_)
        · skip
          refine c_lve (lv' := [(6, .int (nI k)), (5, .int (nI ((psL g y T s p (fun j => f (70 * wiB bb + j)) kc (k + 1)).length))), (4, .int (bI (whL g y T s p (fun j => f (70 * wiB bb + j)) kc (k + 1)))), (0, .ref (ad 5 0)), (1, .ref a), (2, .ref (ad 10 s)), (3, .int (nI p))]) (by rw [psL_n c_31, whL, c_31, Bool.false_and, Bool.or_false]) ?_
          refine c_eq (g' := wst g (spf f (70 * siB bb) (psL g y T s p (fun j => f (70 * wiB bb + j)) kc (k + 1))) kc bb) (by rw [psL_n c_31]) ?_
          exact join_82  
        · skip
          rw [psL_y c_31, List.length_append] at hL2
          refine c_iload C d_X5_isWholeBehind_34 1 rfl ?_
          refine c_istore C d_X5_isWholeBehind_36 (lv' := [(7, .int (nI ((psL g y T s p (fun j => f (70 * wiB bb + j)) kc k).length))), (6, .int (nI k)), (5, .int (nI ((psL g y T s p (fun j => f (70 * wiB bb + j)) kc k).length))), (4, .int (bI (whL g y T s p (fun j => f (70 * wiB bb + j)) kc k))), (0, .ref (ad 5 0)), (1, .ref a), (2, .ref (ad 10 s)), (3, .int (nI p))]) (by decide) rfl ?_
          refine c_aload_n C d_X5_isWholeBehind_38 4 rfl ?_
          refine c_aload_n C d_X5_isWholeBehind_39 5 rfl ?_
          refine c_iload C d_X5_isWholeBehind_40 1 rfl ?_
          refine c_aload_n C d_X5_isWholeBehind_42 6 rfl ?_
          refine c_iload_n C d_X5_isWholeBehind_43 7 rfl ?_
          refine c_iload C d_X5_isWholeBehind_44 2 rfl ?_
          refine k_callV C d_X5_isWholeBehind_46 ok_RX5_44 (k := 5) (i' := 0) (fun l h hm hf => k_addWays2 hm I (W.mv hf) hs hp (by omega) hkc hok hfb (by omega) (fun v hv => psL_lt hv W2.2.1.2.2 (by omega))) rfl rfl rfl rfl (rest := []) rfl rfl (Nat.le_of_ble_eq_true rfl) ⟨⟨by decide, by decide⟩, Nat.le_of_ble_eq_true rfl, Nat.le_of_ble_eq_true rfl⟩ (fun v9 g9 hq2 e9 F2 => ?_)
          obtain ⟨rfl, z2⟩ := e9
          refine c_eq z2 ?_
          refine c_base F2 ?_
          show VC G x ad h (wst g (spf f (70 * siB bb) ((psL g y T s p (fun j => f (70 * wiB bb + j)) kc k) ++ (adR (ad1 g y (T (y.2.2.2.2.2.2 k)) s p k) (fun j => f (70 * wiB bb + j)) kc))) kc bb) 0 0 49 [(7, .int (nI ((psL g y T s p (fun j => f (70 * wiB bb + j)) kc k).length))), (6, .int (nI k)), (5, .int (nI ((psL g y T s p (fun j => f (70 * wiB bb + j)) kc k).length))), (4, .int (bI (whL g y T s p (fun j => f (70 * wiB bb + j)) kc k))), (0, .ref (ad 5 0)), (1, .ref a), (2, .ref (ad 10 s)), (3, .int (nI p))] [.int (nI ((psL g y T s p (fun j => f (70 * wiB bb + j)) kc k).length + (adR (ad1 g y (T (y.2.2.2.2.2.2 k)) s p k) (fun j => f (70 * wiB bb + j)) kc).length))]
          refine c_istore C d_X5_isWholeBehind_49 (lv' := [(5, .int (nI ((psL g y T s p (fun j => f (70 * wiB bb + j)) kc k).length + (adR (ad1 g y (T (y.2.2.2.2.2.2 k)) s p k) (fun j => f (70 * wiB bb + j)) kc).length))), (7, .int (nI ((psL g y T s p (fun j => f (70 * wiB bb + j)) kc k).length))), (6, .int (nI k)), (4, .int (bI (whL g y T s p (fun j => f (70 * wiB bb + j)) kc k))), (0, .ref (ad 5 0)), (1, .ref a), (2, .ref (ad 10 s)), (3, .int (nI p))]) (by decide) rfl ?_
          have join_80 : VC G x ad h (wst g (spf f (70 * siB bb) ((psL g y T s p (fun j => f (70 * wiB bb + j)) kc k) ++ (adR (ad1 g y (T (y.2.2.2.2.2.2 k)) s p k) (fun j => f (70 * wiB bb + j)) kc))) kc bb) 0 0 80 [(7, .int (nI ((psL g y T s p (fun j => f (70 * wiB bb + j)) kc k).length))), (6, .int (nI k)), (5, .int (nI ((psL g y T s p (fun j => f (70 * wiB bb + j)) kc k).length + (adR (ad1 g y (T (y.2.2.2.2.2.2 k)) s p k) (fun j => f (70 * wiB bb + j)) kc).length))), (4, .int (bI (whL g y T s p (fun j => f (70 * wiB bb + j)) kc k))), (0, .ref (ad 5 0)), (1, .ref a), (2, .ref (ad 10 s)), (3, .int (nI p))] [.int (bI (whL g y T s p (fun j => f (70 * wiB bb + j)) kc k || (decide (0 < (adR (ad1 g y (T (y.2.2.2.2.2.2 k)) s p k) (fun j => f (70 * wiB bb + j)) kc).length) && decide (y.2.2.1 / 2 ^ k % 2 = 1))))] := by
            refine c_istore C d_X5_isWholeBehind_80 (lv' := [(4, .int (bI (whL g y T s p (fun j => f (70 * wiB bb + j)) kc k || (decide (0 < (adR (ad1 g y (T (y.2.2.2.2.2.2 k)) s p k) (fun j => f (70 * wiB bb + j)) kc).length) && decide (y.2.2.1 / 2 ^ k % 2 = 1))))), (7, .int (nI ((psL g y T s p (fun j => f (70 * wiB bb + j)) kc k).length))), (6, .int (nI k)), (5, .int (nI ((psL g y T s p (fun j => f (70 * wiB bb + j)) kc k).length + (adR (ad1 g y (T (y.2.2.2.2.2.2 k)) s p k) (fun j => f (70 * wiB bb + j)) kc).length))), (0, .ref (ad 5 0)), (1, .ref a), (2, .ref (ad 10 s)), (3, .int (nI p))]) (by decide) rfl ?_
            refine c_lv (lv' := [(6, .int (nI k)), (5, .int (nI ((psL g y T s p (fun j => f (70 * wiB bb + j)) kc k).length + (adR (ad1 g y (T (y.2.2.2.2.2.2 k)) s p k) (fun j => f (70 * wiB bb + j)) kc).length))), (4, .int (bI (whL g y T s p (fun j => f (70 * wiB bb + j)) kc k || (decide (0 < (adR (ad1 g y (T (y.2.2.2.2.2.2 k)) s p k) (fun j => f (70 * wiB bb + j)) kc).length) && decide (y.2.2.1 / 2 ^ k % 2 = 1))))), (0, .ref (ad 5 0)), (1, .ref a), (2, .ref (ad 10 s)), (3, .int (nI p))]) [2, 3, 0, 4, 5, 6, 7] rfl ?_
            refine c_lve (lv' := [(6, .int (nI k)), (5, .int (nI ((psL g y T s p (fun j => f (70 * wiB bb + j)) kc (k + 1)).length))), (4, .int (bI (whL g y T s p (fun j => f (70 * wiB bb + j)) kc (k + 1)))), (0, .ref (ad 5 0)), (1, .ref a), (2, .ref (ad 10 s)), (3, .int (nI p))]) (by rw [psL_y c_31, whL, c_31, Bool.true_and, List.length_append]) ?_
            refine c_eq (g' := wst g (spf f (70 * siB bb) (psL g y T s p (fun j => f (70 * wiB bb + j)) kc (k + 1))) kc bb) (by rw [psL_y c_31]) ?_
            exact join_82  
          refine c_iload C d_X5_isWholeBehind_51 3 rfl ?_
          refine cb_if_ne C d_X5_isWholeBehind_53 (tgt := 75) rfl (fun c_53 => ?_) (fun c_53 => ?_)
          · skip
            refine c_iconst C d_X5_isWholeBehind_75 (v := (bI true)) rfl ?_
            refine c_goto C d_X5_isWholeBehind_76 (tgt := 80) rfl ?_
            refine c_lv (lv' := [(7, .int (nI ((psL g y T s p (fun j => f (70 * wiB bb + j)) kc k).length))), (6, .int (nI k)), (5, .int (nI ((psL g y T s p (fun j => f (70 * wiB bb + j)) kc k).length + (adR (ad1 g y (T (y.2.2.2.2.2.2 k)) s p k) (fun j => f (70 * wiB bb + j)) kc).length))), (4, .int (bI (whL g y T s p (fun j => f (70 * wiB bb + j)) kc k))), (0, .ref (ad 5 0)), (1, .ref a), (2, .ref (ad 10 s)), (3, .int (nI p))]) [1, 2, 0, 3, 4, 5, 6, 7] rfl ?_
            refine c_st (st' := [.int (bI (whL g y T s p (fun j => f (70 * wiB bb + j)) kc k || (decide (0 < (adR (ad1 g y (T (y.2.2.2.2.2.2 k)) s p k) (fun j => f (70 * wiB bb + j)) kc).length) && decide (y.2.2.1 / 2 ^ k % 2 = 1))))]) (congrArg (fun z => [Value.int (bI z)]) (by rw [c_53]; rfl)) ?_
            exact join_80  
          · skip
            refine c_iload C d_X5_isWholeBehind_56 0 rfl ?_
            refine c_iload C d_X5_isWholeBehind_58 1 rfl ?_
            refine cn_icmp_le C d_X5_isWholeBehind_60 (tgt := 79) rfl (by omega) (by omega) (fun c_60 => ?_) (fun c_60 => ?_)
            · skip
              refine c_iconst C d_X5_isWholeBehind_79 (v := (bI false)) rfl ?_
              refine c_lv (lv' := [(7, .int (nI ((psL g y T s p (fun j => f (70 * wiB bb + j)) kc k).length))), (6, .int (nI k)), (5, .int (nI ((psL g y T s p (fun j => f (70 * wiB bb + j)) kc k).length + (adR (ad1 g y (T (y.2.2.2.2.2.2 k)) s p k) (fun j => f (70 * wiB bb + j)) kc).length))), (4, .int (bI (whL g y T s p (fun j => f (70 * wiB bb + j)) kc k))), (0, .ref (ad 5 0)), (1, .ref a), (2, .ref (ad 10 s)), (3, .int (nI p))]) [1, 2, 0, 3, 4, 5, 6, 7] rfl ?_
              refine c_st (st' := [.int (bI (whL g y T s p (fun j => f (70 * wiB bb + j)) kc k || (decide (0 < (adR (ad1 g y (T (y.2.2.2.2.2.2 k)) s p k) (fun j => f (70 * wiB bb + j)) kc).length) && decide (y.2.2.1 / 2 ^ k % 2 = 1))))]) (congrArg (fun z => [Value.int (bI z)]) (by rw [c_53, decide_eq_false (by omega)]; rfl)) ?_
              exact join_80  
            · skip
              refine c_aload_n C d_X5_isWholeBehind_63 5 rfl ?_
              refine c_getN C d_X5_isWholeBehind_64 fd_RX5_48 (na) (h1) (v := .int (nI y.2.2.1)) rfl ?_
              refine c_iload C d_X5_isWholeBehind_67 2 rfl ?_
              refine cn_ishr C d_X5_isWholeBehind_69 (by have := W2.2.1.2.1; omega) (by omega) ?_
              refine c_iconst C d_X5_isWholeBehind_70 (v := (nI 1)) rfl ?_
              refine cn_iand C d_X5_isWholeBehind_71 ?_
              refine c_st (st' := [.int (nI (y.2.2.1 / 2 ^ k % 2))]) (by rw [and1]) ?_
              refine cn_if_eq C d_X5_isWholeBehind_72 (tgt := 79) rfl (by omega) (fun c_72 => ?_) (fun c_72 => ?_)
              · skip
                refine c_iconst C d_X5_isWholeBehind_79 (v := (bI false)) rfl ?_
                refine c_lv (lv' := [(7, .int (nI ((psL g y T s p (fun j => f (70 * wiB bb + j)) kc k).length))), (6, .int (nI k)), (5, .int (nI ((psL g y T s p (fun j => f (70 * wiB bb + j)) kc k).length + (adR (ad1 g y (T (y.2.2.2.2.2.2 k)) s p k) (fun j => f (70 * wiB bb + j)) kc).length))), (4, .int (bI (whL g y T s p (fun j => f (70 * wiB bb + j)) kc k))), (0, .ref (ad 5 0)), (1, .ref a), (2, .ref (ad 10 s)), (3, .int (nI p))]) [1, 2, 0, 3, 4, 5, 6, 7] rfl ?_
                refine c_st (st' := [.int (bI (whL g y T s p (fun j => f (70 * wiB bb + j)) kc k || (decide (0 < (adR (ad1 g y (T (y.2.2.2.2.2.2 k)) s p k) (fun j => f (70 * wiB bb + j)) kc).length) && decide (y.2.2.1 / 2 ^ k % 2 = 1))))]) (congrArg (fun z => [Value.int (bI z)]) (by rw [decide_eq_false (show ¬ y.2.2.1 / 2 ^ k % 2 = 1 by omega), c_53, Bool.and_false]; rfl)) ?_
                exact join_80  
              · skip
                refine c_iconst C d_X5_isWholeBehind_75 (v := (bI true)) rfl ?_
                refine c_goto C d_X5_isWholeBehind_76 (tgt := 80) rfl ?_
                refine c_lv (lv' := [(7, .int (nI ((psL g y T s p (fun j => f (70 * wiB bb + j)) kc k).length))), (6, .int (nI k)), (5, .int (nI ((psL g y T s p (fun j => f (70 * wiB bb + j)) kc k).length + (adR (ad1 g y (T (y.2.2.2.2.2.2 k)) s p k) (fun j => f (70 * wiB bb + j)) kc).length))), (4, .int (bI (whL g y T s p (fun j => f (70 * wiB bb + j)) kc k))), (0, .ref (ad 5 0)), (1, .ref a), (2, .ref (ad 10 s)), (3, .int (nI p))]) [1, 2, 0, 3, 4, 5, 6, 7] rfl ?_
                refine c_st (st' := [.int (bI (whL g y T s p (fun j => f (70 * wiB bb + j)) kc k || (decide (0 < (adR (ad1 g y (T (y.2.2.2.2.2.2 k)) s p k) (fun j => f (70 * wiB bb + j)) kc).length) && decide (y.2.2.1 / 2 ^ k % 2 = 1))))]) (congrArg (fun z => [Value.int (bI z)]) (by rw [decide_eq_true (show y.2.2.1 / 2 ^ k % 2 = 1 by omega), c_53, decide_eq_true (by omega)]; rfl)) ?_
                exact join_80  
  refine c_lve (lv' := [(6, .int (nI 0)), (5, .int (nI ((psL g y T s p (fun j => f (70 * wiB bb + j)) kc 0).length))), (4, .int (bI (whL g y T s p (fun j => f (70 * wiB bb + j)) kc 0))), (0, .ref (ad 5 0)), (1, .ref a), (2, .ref (ad 10 s)), (3, .int (nI p))]) (rfl) ?_
  refine c_eq (g' := wst g (spf f (70 * siB bb) (psL g y T s p (fun j => f (70 * wiB bb + j)) kc 0)) kc bb) (by rw [show psL g y T s p (fun j => f (70 * wiB bb + j)) kc 0 = [] from rfl, spf_nil]) ?_
  exact loop_9 _ 0 (by omega) (Nat.lt_succ_self _)
