theorem tw_2 : (Jvm.Cond.initialized "Corpusline$Walker") ∈ TB := tb_of 2 (by decide +kernel) rfl
theorem tw_361 : (Jvm.Cond.fieldLink "Corpusline$Walker" (32 : Nat) "Corpusline$Part" "tests" "[LCorpusline$TokenTest;") ∈ TB := tb_of 361 (by decide +kernel) rfl
theorem tw_373 : (Jvm.Cond.fieldLink "Corpusline$Walker" (63 : Nat) "Corpusline$Part" "readSettings" "I") ∈ TB := tb_of 373 (by decide +kernel) rfl
theorem tw_519 : (Jvm.Cond.methodLink "Corpusline$Walker" (51 : Nat) ({ cls := "Corpusline$Walker", name := "nextsOf", desc := "(LCorpusline$Part;I)I" } : Jvm.MethodName)) ∈ TB := tb_of 519 (by decide +kernel) rfl
theorem tw_520 : (Jvm.Cond.static ({ cls := "Corpusline$Walker", name := "nextsOf", desc := "(LCorpusline$Part;I)I" } : Jvm.MethodName)) ∈ TB := tb_of 520 (by decide +kernel) rfl
theorem tw_521 : (Jvm.Cond.code ({ cls := "Corpusline$Walker", name := "nextsOf", desc := "(LCorpusline$Part;I)I" } : Jvm.MethodName) prog_7_method_5_code (3 : Nat) (Option.some Jvm.ClassFile.FieldType.int)) ∈ TB := tb_of 521 (by decide +kernel) rfl
theorem tw_522 : (Jvm.Cond.methodLink "Corpusline$Walker" (55 : Nat) ({ cls := "Corpusline$TokenTest", name := "hasSameValues", desc := "(LCorpusline$Side;II)Z" } : Jvm.MethodName)) ∈ TB := tb_of 522 (by decide +kernel) rfl
theorem tw_523 : (Jvm.Cond.instanceMethod ({ cls := "Corpusline$TokenTest", name := "hasSameValues", desc := "(LCorpusline$Side;II)Z" } : Jvm.MethodName)) ∈ TB := tb_of 523 (by decide +kernel) rfl
theorem tw_524 : (Jvm.Cond.selects "Corpusline$TokenTest" ({ cls := "Corpusline$TokenTest", name := "hasSameValues", desc := "(LCorpusline$Side;II)Z" } : Jvm.MethodName) ({ cls := "Corpusline$TokenTest", name := "hasSameValues", desc := "(LCorpusline$Side;II)Z" } : Jvm.MethodName)) ∈ TB := tb_of 524 (by decide +kernel) rfl
theorem tw_525 : (Jvm.Cond.code ({ cls := "Corpusline$TokenTest", name := "hasSameValues", desc := "(LCorpusline$Side;II)Z" } : Jvm.MethodName) prog_6_method_8_code (7 : Nat) (Option.some Jvm.ClassFile.FieldType.boolean)) ∈ TB := tb_of 525 (by decide +kernel) rfl
theorem tw_529 : (Jvm.Cond.methodLink "Corpusline$Walker" (59 : Nat) ({ cls := "Corpusline$TokenTest", name := "settingsBehind", desc := "(II)I" } : Jvm.MethodName)) ∈ TB := tb_of 529 (by decide +kernel) rfl
theorem tw_530 : (Jvm.Cond.instanceMethod ({ cls := "Corpusline$TokenTest", name := "settingsBehind", desc := "(II)I" } : Jvm.MethodName)) ∈ TB := tb_of 530 (by decide +kernel) rfl
theorem tw_531 : (Jvm.Cond.selects "Corpusline$TokenTest" ({ cls := "Corpusline$TokenTest", name := "settingsBehind", desc := "(II)I" } : Jvm.MethodName) ({ cls := "Corpusline$TokenTest", name := "settingsBehind", desc := "(II)I" } : Jvm.MethodName)) ∈ TB := tb_of 531 (by decide +kernel) rfl
theorem tw_532 : (Jvm.Cond.code ({ cls := "Corpusline$TokenTest", name := "settingsBehind", desc := "(II)I" } : Jvm.MethodName) prog_6_method_9_code (5 : Nat) (Option.some Jvm.ClassFile.FieldType.int)) ∈ TB := tb_of 532 (by decide +kernel) rfl
theorem tw_537 : (Jvm.Cond.methodLink "Corpusline$Walker" (66 : Nat) ({ cls := "Corpusline$Walker", name := "isSpareWay", desc := "(III)Z" } : Jvm.MethodName)) ∈ TB := tb_of 537 (by decide +kernel) rfl
theorem tw_539 : (Jvm.Cond.instanceMethod ({ cls := "Corpusline$Walker", name := "isSpareWay", desc := "(III)Z" } : Jvm.MethodName)) ∈ TB := tb_of 539 (by decide +kernel) rfl
theorem tw_540 : (Jvm.Cond.code ({ cls := "Corpusline$Walker", name := "isSpareWay", desc := "(III)Z" } : Jvm.MethodName) prog_7_method_6_code (5 : Nat) (Option.some Jvm.ClassFile.FieldType.boolean)) ∈ TB := tb_of 540 (by decide +kernel) rfl
theorem ts_13 : Cond.selects "Corpusline$Walker" ({ cls := "Corpusline$Walker", name := "isSpareWay", desc := "(III)Z" } : MethodName) ({ cls := "Corpusline$Walker", name := "isSpareWay", desc := "(III)Z" } : MethodName) ∈ TB := tb_sel 13 (by decide +kernel) rfl
theorem fd_RX5_11 : fdOk RX5 11 4 0 := ⟨_, _, _, rfl, by decide, cw_4, tw_35, rfl⟩
theorem fd_RX5_18 : fdOk RX5 18 4 2 := ⟨_, _, _, rfl, by decide, cw_4, tw_37, rfl⟩
theorem fd_RX5_32 : fdOk RX5 32 0 0 := ⟨_, _, _, rfl, by decide, cw_0, tw_361, rfl⟩
theorem fd_RX5_63 : fdOk RX5 63 0 6 := ⟨_, _, _, rfl, by decide, cw_0, tw_373, rfl⟩
theorem ok_RX5_51 : okS RX5 51 yX5_nextsOf cX5_nextsOf 3 (Option.some Jvm.ClassFile.FieldType.int) 2 := ⟨tw_519, tw_520, tw_2, tw_521, ⟨by decide, by decide, by decide +kernel⟩⟩
theorem ok_RX5_55 : okV RX5 55 yX4_hasSameValues cX4_hasSameValues 7 (Option.some Jvm.ClassFile.FieldType.boolean) 3 := ⟨tw_522, tw_523, tw_524, tw_12, tw_525, ⟨by decide, by decide, by decide +kernel⟩⟩
theorem ok_RX5_59 : okV RX5 59 yX4_settingsBehind cX4_settingsBehind 5 (Option.some Jvm.ClassFile.FieldType.int) 2 := ⟨tw_529, tw_530, tw_531, tw_12, tw_532, ⟨by decide, by decide, by decide +kernel⟩⟩
theorem ok_RX5_66 : okV RX5 66 yX5_isSpareWay cX5_isSpareWay 5 (Option.some Jvm.ClassFile.FieldType.boolean) 3 := ⟨tw_537, tw_539, ts_13, tw_2, tw_540, ⟨by decide, by decide, by decide +kernel⟩⟩
/-- the walker's state: its arrays, how many ways, which array is which -/
def wst (g : mS) (f : Nat → Nat) (k : Nat) (b : Bool) : mS := uK (uB (uB (sN g 50 f) 30 0 b) 31 0 b) 41 k
def wiB (b : Bool) : Nat := if b = true then 1 else 0
def siB (b : Bool) : Nat := if b = true then 0 else 1
theorem wst_I {g : mS} {f : Nat → Nat} {k : Nat} {b : Bool} (I : mInv g) : mInv (wst g f k b) := I
theorem wsb (b : Bool) : wiB b < 2 ∧ siB b < 2 ∧ wiB b ≠ siB b := by cases b <;> decide
/-- a list put in from a place on -/
def spf (f : Nat → Nat) (o : Nat) (A : List Nat) : Nat → Nat := fun z => if o ≤ z ∧ z < o + A.length then A.getD (z - o) 0 else f z
theorem spf_nil {f : Nat → Nat} {o : Nat} : spf f o [] = f := by
  funext z; unfold spf; rw [if_neg (by rw [List.length_nil]; omega)]
theorem getD_app {A B : List Nat} {i : Nat} (h : i < A.length) : (A ++ B).getD i 0 = A.getD i 0 := by
  rw [List.getD_eq_getElem?_getD, List.getD_eq_getElem?_getD, List.getElem?_append_left h]
theorem getD_app2 {A B : List Nat} {i : Nat} (h : A.length ≤ i) : (A ++ B).getD i 0 = B.getD (i - A.length) 0 := by
  rw [List.getD_eq_getElem?_getD, List.getD_eq_getElem?_getD, List.getElem?_append_right h]
theorem spf_spf {f : Nat → Nat} {o : Nat} {A B : List Nat} : spf (spf f o A) (o + A.length) B = spf f o (A ++ B) := by
  funext z; unfold spf
  rw [List.length_append]
  by_cases c : o + A.length ≤ z ∧ z < o + A.length + B.length
  · rw [if_pos c, if_pos (by omega), getD_app2 (by omega), show z - o - A.length = z - (o + A.length) by omega]
  · rw [if_neg c]
    by_cases d : o ≤ z ∧ z < o + A.length
    · rw [if_pos d, if_pos (by omega), getD_app (by omega)]
    · rw [if_neg d, if_neg (by omega)]
theorem spf_1 {f : Nat → Nat} {o w z : Nat} {A : List Nat} : (if z = o + A.length then w else spf f o A z) = spf f o (A ++ [w]) z := by
  rw [← spf_spf]
  show _ = if o + A.length ≤ z ∧ z < o + A.length + 1 then [w].getD (z - (o + A.length)) 0 else spf f o A z
  by_cases c : z = o + A.length
  · rw [if_pos c, if_pos (by omega), show z - (o + A.length) = 0 by omega]; rfl
  · rw [if_neg c, if_neg (by omega)]
theorem wst_1 {g : mS} {f : Nat → Nat} {o w k : Nat} {A : List Nat} {b : Bool} : uN (wst g (spf f o A) k b) 50 (o + A.length) w = wst g (spf f o (A ++ [w])) k b := by
  show uK (uB (uB (uN (sN g 50 (spf f o A)) 50 (o + A.length) w) 30 0 b) 31 0 b) 41 k = _
  unfold wst
  rw [sN_step (g := spf f o (A ++ [w]))]
  intro z; exact spf_1
theorem spf_out {f : Nat → Nat} {o z : Nat} {A : List Nat} (h : z < o ∨ o + A.length ≤ z) : spf f o A z = f z := by
  unfold spf; rw [if_neg (by omega)]
theorem spf_in {f : Nat → Nat} {o j : Nat} {A : List Nat} (h : j < A.length) : spf f o A (o + j) = A.getD j 0 := by
  unfold spf; rw [if_pos (by omega), Nat.add_sub_cancel_left]
theorem getD_mem {A : List Nat} {j : Nat} (h : j < A.length) : A.getD j 0 ∈ A := by
  rw [List.getD_eq_getElem?_getD, List.getElem?_eq_getElem h]; exact List.getElem_mem h
theorem mem_getD {A : List Nat} {w : Nat} (h : w ∈ A) : ∃ j, j < A.length ∧ A.getD j 0 = w := by
  obtain ⟨j, hj, e⟩ := List.mem_iff_getElem.mp h
  exact ⟨j, hj, by rw [List.getD_eq_getElem?_getD, List.getElem?_eq_getElem hj]; exact e⟩
theorem haO_iff {f : Nat → Bool} : ∀ {k : Nat}, haO f k = true ↔ ∃ j, j < k ∧ f j = true
  | 0 => ⟨fun h => (by cases h), fun ⟨j, h, _⟩ => absurd h (Nat.not_lt_zero _)⟩
  | k + 1 => by
    rw [haO, Bool.or_eq_true, haO_iff]
    constructor
    · rintro (⟨j, h1, h2⟩ | h)
      · exact ⟨j, by omega, h2⟩
      · exact ⟨k, by omega, h⟩
    · rintro ⟨j, h1, h2⟩
      by_cases e : j = k
      · subst e; exact Or.inr h2
      · exact Or.inl ⟨j, by omega, h2⟩
theorem sw_mem {g : mS} {f : Nat → Nat} {fr w k : Nat} {A : List Nat} {b : Bool} : haO (swF (wst g (spf f (70 * siB b + fr) A) k b) w fr) (fr + A.length) = decide (w ∈ A) := by
  rw [Bool.eq_iff_iff, haO_iff, decide_eq_true_eq]
  have e : ∀ j, mN (wst g (spf f (70 * siB b + fr) A) k b) 50 (70 * si (wst g (spf f (70 * siB b + fr) A) k b) + j) = spf f (70 * siB b + fr) A (70 * siB b + j) := fun j => rfl
  constructor
  · rintro ⟨j, h1, h2⟩
    unfold swF at h2
    rw [Bool.and_eq_true, decide_eq_true_eq, decide_eq_true_eq, e] at h2
    obtain ⟨h2, h3⟩ := h2
    rw [show 70 * siB b + j = 70 * siB b + fr + (j - fr) by omega, spf_in (by omega)] at h3
    rw [← h3]; exact getD_mem (by omega)
  · intro h
    obtain ⟨j, hj, h2⟩ := mem_getD h
    refine ⟨fr + j, by omega, ?_⟩
    unfold swF
    rw [e, show 70 * siB b + (fr + j) = 70 * siB b + fr + j by omega, spf_in hj, h2, decide_eq_true (by omega), decide_eq_true rfl]; rfl
def adS (A : List Nat) (o : Option Nat) : List Nat := match o with
  | none => A
  | some w => if w ∈ A then A else A ++ [w]
/-- the ways through one test, none twice -/
def adR (a : Nat → Option Nat) (wv : Nat → Nat) : Nat → List Nat
  | 0 => []
  | k + 1 => adS (adR a wv k) (a (wv k))
theorem adS_le (A : List Nat) (o : Option Nat) : A.length ≤ (adS A o).length := by
  unfold adS
  split
  · exact Nat.le_refl _
  · split
    · exact Nat.le_refl _
    · rw [List.length_append]; exact Nat.le_add_right _ _
theorem adR_le {a : Nat → Option Nat} {wv : Nat → Nat} {k : Nat} : ∀ j, (adR a wv k).length ≤ (adR a wv (k + j)).length
  | 0 => Nat.le_refl _
  | j + 1 => Nat.le_trans (adR_le j) (adS_le _ _)
theorem adS_mem {A : List Nat} {o : Option Nat} {v : Nat} : v ∈ adS A o ↔ v ∈ A ∨ o = some v := by
  unfold adS
  split
  · simp
  · rename_i w
    split
    · rename_i h
      constructor
      · exact Or.inl
      · rintro (z | z)
        · exact z
        · cases z; exact h
    · rw [List.mem_append, List.mem_singleton]
      constructor
      · rintro (z | z)
        · exact Or.inl z
        · exact Or.inr (by rw [z])
      · rintro (z | z)
        · exact Or.inl z
        · cases z; exact Or.inr rfl
theorem adR_mem {a : Nat → Option Nat} {wv : Nat → Nat} {v : Nat} : ∀ {k}, v ∈ adR a wv k ↔ ∃ j, j < k ∧ a (wv j) = some v
  | 0 => ⟨fun h => (by cases h), fun ⟨j, h, _⟩ => absurd h (Nat.not_lt_zero _)⟩
  | k + 1 => by
    rw [adR, adS_mem, adR_mem]
    constructor
    · rintro (⟨j, h1, h2⟩ | h)
      · exact ⟨j, by omega, h2⟩
      · exact ⟨k, by omega, h⟩
    · rintro ⟨j, h1, h2⟩
      by_cases e : j = k
      · subst e; exact Or.inr h2
      · exact Or.inl ⟨j, by omega, h2⟩
/-- one way through one test -/
def ad1 (g : mS) (x : pA) (c : tC3) (s p i w : Nat) : Option Nat := if nxF x.2.1 x.2.2.2.2.2.1 w / 2 ^ i % 2 = 1 ∧ allTo (saF g c.2.1 (w / 2 ^ 4) s p) 9 = true then some ((sbF c.2.2 (w / 2 ^ 4) p 3 &&& x.2.2.2.1) * 2 ^ 4 ||| (i + 1)) else none
/-- a way in its bounds -/
def okW (n w : Nat) : Prop := w < 4194304 ∧ w &&& 15 ≤ n ∧ ∀ k, k < 9 → saX (w / 2 ^ 4) k ≤ 40
/-- a part in numbers, in its bounds -/
def wfA (x : pA) : Prop := (1 ≤ x.1 ∧ x.1 ≤ 8) ∧ (x.2.1 < 256 ∧ x.2.2.1 < 256 ∧ x.2.2.2.1 < 262144) ∧ ∀ j, j < x.1 → x.2.2.2.2.2.1 j < 256
theorem nxF_lt {x : pA} (h : wfA x) {w : Nat} (hw : w &&& 15 ≤ x.1) : nxF x.2.1 x.2.2.2.2.2.1 w < 256 := by
  unfold nxF
  split
  · exact h.2.1.1
  · exact h.2.2 _ (by omega)
theorem way_lt {a rs i : Nat} (h : rs < 262144) (hi : i < 15) : (a &&& rs) * 2 ^ 4 ||| (i + 1) < 4194304 := by
  have h1 : a &&& rs ≤ rs := Nat.and_le_right
  exact or_lt (n := 22) (by omega) (by omega)
/-- what stands for a walk: the pattern with its tests -/
def wkA (G : eG) (ad : Nat → Nat → Nat) (h : hp) (T : Nat → tC3) (a : Nat) (x : pA) (is : Bool) : Prop := prA G ad h a x is ∧ wfA x ∧ ∀ j, j < x.1 → tsA G ad h T (x.2.2.2.2.2.2 j) ∧ ∀ i, i < 6 → (T (x.2.2.2.2.2.2 j)).1 i < 18446744073709551616
theorem wkA.mv {G : eG} {ad : Nat → Nat → Nat} {h h' : hp} {T : Nat → tC3} {a : Nat} {x : pA} {is : Bool} (t : wkA G ad h T a x is) (c : cfr ad h h') : wkA G ad h' T a x is := ⟨t.1.mv c, t.2.1, fun j hj => ⟨(t.2.2 j hj).1.mv c, (t.2.2 j hj).2⟩⟩
theorem adS_no {A : List Nat} {o : Option Nat} (h : o = none) : adS A o = A := by rw [h]; rfl
theorem adS_in {A : List Nat} {o : Option Nat} {w : Nat} (h : o = some w) (m : w ∈ A) : adS A o = A := by rw [h]; exact if_pos m
theorem adS_new {A : List Nat} {o : Option Nat} {w : Nat} (h : o = some w) (m : ¬ w ∈ A) : adS A o = A ++ [w] := by rw [h]; exact if_neg m
def dl_X5_addWaysThrough : List (Nat × Instr × Nat) := [(0, .aload_n 1, 1), (1, .getfield 32, 3), (4, .iload_n 2, 1), (5, .aaload, 1), (6, .astore 6, 2), (8, .iload 5, 2), (10, .istore 7, 2), (12, .iconst 0, 1), (13, .istore 8, 2), (15, .iload 8, 2), (17, .aload_n 0, 1), (18, .getfield 18, 3), (21, .if_icmp .ge 112, 3), (24, .aload_n 0, 1), (25, .getfield 11, 3), (28, .iload 8, 2), (30, .iaload, 1), (31, .iconst 4, 1), (32, .iushr, 1), (33, .istore 9, 2), (35, .aload_n 1, 1), (36, .aload_n 0, 1), (37, .getfield 11, 3), (40, .iload 8, 2), (42, .iaload, 1), (43, .invokestatic 51, 3), (46, .iload_n 2, 1), (47, .ishr, 1), (48, .iconst 1, 1), (49, .iand, 1), (50, .ifCond .eq 77, 3), (53, .aload 6, 2), (55, .aload_n 3, 1), (56, .iload 4, 2), (58, .iload 9, 2), (60, .invokevirtual 55, 3), (63, .ifCond .ne 6, 3), (66, .goto 61, 3), (69, .aload 6, 2), (71, .iload 9, 2), (73, .iload 4, 2), (75, .invokevirtual 59, 3), (78, .aload_n 1, 1), (79, .getfield 63, 3), (82, .iand, 1), (83, .istore 10, 2), (85, .iload 10, 2), (87, .iconst 4, 1), (88, .ishl, 1), (89, .iload_n 2, 1), (90, .iconst 1, 1), (91, .iadd, 1), (92, .ior, 1), (93, .istore 11, 2), (95, .iload 7, 2), (97, .bipush 70, 2), (99, .if_icmp .ge 28, 3), (102, .aload_n 0, 1), (103, .iload 11, 2), (105, .iload 5, 2), (107, .iload 7, 2), (109, .invokevirtual 66, 3), (112, .ifCond .ne 15, 3), (115, .aload_n 0, 1), (116, .getfield 15, 3), (119, .iload 7, 2), (121, .iload 11, 2), (123, .iastore, 1), (124, .iinc 7 1, 3), (127, .iinc 8 1, 3), (130, .goto (-115), 3), (133, .iload 7, 2), (135, .ireturn, 1)]
theorem dc_X5_addWaysThrough : dnL cX5_addWaysThrough dl_X5_addWaysThrough = true := by decide +kernel
theorem d_X5_addWaysThrough_0 : dn cX5_addWaysThrough 0 (.aload_n 1) 1 1 := dnAt dc_X5_addWaysThrough 0 rfl rfl
theorem d_X5_addWaysThrough_1 : dn cX5_addWaysThrough 1 (.getfield 32) 3 4 := dnAt dc_X5_addWaysThrough 1 rfl rfl
theorem d_X5_addWaysThrough_4 : dn cX5_addWaysThrough 4 (.iload_n 2) 1 5 := dnAt dc_X5_addWaysThrough 2 rfl rfl
theorem d_X5_addWaysThrough_5 : dn cX5_addWaysThrough 5 (.aaload) 1 6 := dnAt dc_X5_addWaysThrough 3 rfl rfl
theorem d_X5_addWaysThrough_6 : dn cX5_addWaysThrough 6 (.astore 6) 2 8 := dnAt dc_X5_addWaysThrough 4 rfl rfl
theorem d_X5_addWaysThrough_8 : dn cX5_addWaysThrough 8 (.iload 5) 2 10 := dnAt dc_X5_addWaysThrough 5 rfl rfl
theorem d_X5_addWaysThrough_10 : dn cX5_addWaysThrough 10 (.istore 7) 2 12 := dnAt dc_X5_addWaysThrough 6 rfl rfl
theorem d_X5_addWaysThrough_12 : dn cX5_addWaysThrough 12 (.iconst 0) 1 13 := dnAt dc_X5_addWaysThrough 7 rfl rfl
theorem d_X5_addWaysThrough_13 : dn cX5_addWaysThrough 13 (.istore 8) 2 15 := dnAt dc_X5_addWaysThrough 8 rfl rfl
theorem d_X5_addWaysThrough_15 : dn cX5_addWaysThrough 15 (.iload 8) 2 17 := dnAt dc_X5_addWaysThrough 9 rfl rfl
theorem d_X5_addWaysThrough_17 : dn cX5_addWaysThrough 17 (.aload_n 0) 1 18 := dnAt dc_X5_addWaysThrough 10 rfl rfl
theorem d_X5_addWaysThrough_18 : dn cX5_addWaysThrough 18 (.getfield 18) 3 21 := dnAt dc_X5_addWaysThrough 11 rfl rfl
theorem d_X5_addWaysThrough_21 : dn cX5_addWaysThrough 21 (.if_icmp .ge 112) 3 24 := dnAt dc_X5_addWaysThrough 12 rfl rfl
theorem d_X5_addWaysThrough_24 : dn cX5_addWaysThrough 24 (.aload_n 0) 1 25 := dnAt dc_X5_addWaysThrough 13 rfl rfl
theorem d_X5_addWaysThrough_25 : dn cX5_addWaysThrough 25 (.getfield 11) 3 28 := dnAt dc_X5_addWaysThrough 14 rfl rfl
theorem d_X5_addWaysThrough_28 : dn cX5_addWaysThrough 28 (.iload 8) 2 30 := dnAt dc_X5_addWaysThrough 15 rfl rfl
theorem d_X5_addWaysThrough_30 : dn cX5_addWaysThrough 30 (.iaload) 1 31 := dnAt dc_X5_addWaysThrough 16 rfl rfl
theorem d_X5_addWaysThrough_31 : dn cX5_addWaysThrough 31 (.iconst 4) 1 32 := dnAt dc_X5_addWaysThrough 17 rfl rfl
theorem d_X5_addWaysThrough_32 : dn cX5_addWaysThrough 32 (.iushr) 1 33 := dnAt dc_X5_addWaysThrough 18 rfl rfl
theorem d_X5_addWaysThrough_33 : dn cX5_addWaysThrough 33 (.istore 9) 2 35 := dnAt dc_X5_addWaysThrough 19 rfl rfl
theorem d_X5_addWaysThrough_35 : dn cX5_addWaysThrough 35 (.aload_n 1) 1 36 := dnAt dc_X5_addWaysThrough 20 rfl rfl
theorem d_X5_addWaysThrough_36 : dn cX5_addWaysThrough 36 (.aload_n 0) 1 37 := dnAt dc_X5_addWaysThrough 21 rfl rfl
theorem d_X5_addWaysThrough_37 : dn cX5_addWaysThrough 37 (.getfield 11) 3 40 := dnAt dc_X5_addWaysThrough 22 rfl rfl
theorem d_X5_addWaysThrough_40 : dn cX5_addWaysThrough 40 (.iload 8) 2 42 := dnAt dc_X5_addWaysThrough 23 rfl rfl
theorem d_X5_addWaysThrough_42 : dn cX5_addWaysThrough 42 (.iaload) 1 43 := dnAt dc_X5_addWaysThrough 24 rfl rfl
theorem d_X5_addWaysThrough_43 : dn cX5_addWaysThrough 43 (.invokestatic 51) 3 46 := dnAt dc_X5_addWaysThrough 25 rfl rfl
theorem d_X5_addWaysThrough_46 : dn cX5_addWaysThrough 46 (.iload_n 2) 1 47 := dnAt dc_X5_addWaysThrough 26 rfl rfl
theorem d_X5_addWaysThrough_47 : dn cX5_addWaysThrough 47 (.ishr) 1 48 := dnAt dc_X5_addWaysThrough 27 rfl rfl
theorem d_X5_addWaysThrough_48 : dn cX5_addWaysThrough 48 (.iconst 1) 1 49 := dnAt dc_X5_addWaysThrough 28 rfl rfl
theorem d_X5_addWaysThrough_49 : dn cX5_addWaysThrough 49 (.iand) 1 50 := dnAt dc_X5_addWaysThrough 29 rfl rfl
theorem d_X5_addWaysThrough_50 : dn cX5_addWaysThrough 50 (.ifCond .eq 77) 3 53 := dnAt dc_X5_addWaysThrough 30 rfl rfl
theorem d_X5_addWaysThrough_53 : dn cX5_addWaysThrough 53 (.aload 6) 2 55 := dnAt dc_X5_addWaysThrough 31 rfl rfl
theorem d_X5_addWaysThrough_55 : dn cX5_addWaysThrough 55 (.aload_n 3) 1 56 := dnAt dc_X5_addWaysThrough 32 rfl rfl
theorem d_X5_addWaysThrough_56 : dn cX5_addWaysThrough 56 (.iload 4) 2 58 := dnAt dc_X5_addWaysThrough 33 rfl rfl
theorem d_X5_addWaysThrough_58 : dn cX5_addWaysThrough 58 (.iload 9) 2 60 := dnAt dc_X5_addWaysThrough 34 rfl rfl
theorem d_X5_addWaysThrough_60 : dn cX5_addWaysThrough 60 (.invokevirtual 55) 3 63 := dnAt dc_X5_addWaysThrough 35 rfl rfl
theorem d_X5_addWaysThrough_63 : dn cX5_addWaysThrough 63 (.ifCond .ne 6) 3 66 := dnAt dc_X5_addWaysThrough 36 rfl rfl
theorem d_X5_addWaysThrough_66 : dn cX5_addWaysThrough 66 (.goto 61) 3 69 := dnAt dc_X5_addWaysThrough 37 rfl rfl
theorem d_X5_addWaysThrough_69 : dn cX5_addWaysThrough 69 (.aload 6) 2 71 := dnAt dc_X5_addWaysThrough 38 rfl rfl
theorem d_X5_addWaysThrough_71 : dn cX5_addWaysThrough 71 (.iload 9) 2 73 := dnAt dc_X5_addWaysThrough 39 rfl rfl
theorem d_X5_addWaysThrough_73 : dn cX5_addWaysThrough 73 (.iload 4) 2 75 := dnAt dc_X5_addWaysThrough 40 rfl rfl
theorem d_X5_addWaysThrough_75 : dn cX5_addWaysThrough 75 (.invokevirtual 59) 3 78 := dnAt dc_X5_addWaysThrough 41 rfl rfl
theorem d_X5_addWaysThrough_78 : dn cX5_addWaysThrough 78 (.aload_n 1) 1 79 := dnAt dc_X5_addWaysThrough 42 rfl rfl
theorem d_X5_addWaysThrough_79 : dn cX5_addWaysThrough 79 (.getfield 63) 3 82 := dnAt dc_X5_addWaysThrough 43 rfl rfl
theorem d_X5_addWaysThrough_82 : dn cX5_addWaysThrough 82 (.iand) 1 83 := dnAt dc_X5_addWaysThrough 44 rfl rfl
theorem d_X5_addWaysThrough_83 : dn cX5_addWaysThrough 83 (.istore 10) 2 85 := dnAt dc_X5_addWaysThrough 45 rfl rfl
theorem d_X5_addWaysThrough_85 : dn cX5_addWaysThrough 85 (.iload 10) 2 87 := dnAt dc_X5_addWaysThrough 46 rfl rfl
theorem d_X5_addWaysThrough_87 : dn cX5_addWaysThrough 87 (.iconst 4) 1 88 := dnAt dc_X5_addWaysThrough 47 rfl rfl
theorem d_X5_addWaysThrough_88 : dn cX5_addWaysThrough 88 (.ishl) 1 89 := dnAt dc_X5_addWaysThrough 48 rfl rfl
theorem d_X5_addWaysThrough_89 : dn cX5_addWaysThrough 89 (.iload_n 2) 1 90 := dnAt dc_X5_addWaysThrough 49 rfl rfl
theorem d_X5_addWaysThrough_90 : dn cX5_addWaysThrough 90 (.iconst 1) 1 91 := dnAt dc_X5_addWaysThrough 50 rfl rfl
theorem d_X5_addWaysThrough_91 : dn cX5_addWaysThrough 91 (.iadd) 1 92 := dnAt dc_X5_addWaysThrough 51 rfl rfl
theorem d_X5_addWaysThrough_92 : dn cX5_addWaysThrough 92 (.ior) 1 93 := dnAt dc_X5_addWaysThrough 52 rfl rfl
theorem d_X5_addWaysThrough_93 : dn cX5_addWaysThrough 93 (.istore 11) 2 95 := dnAt dc_X5_addWaysThrough 53 rfl rfl
theorem d_X5_addWaysThrough_95 : dn cX5_addWaysThrough 95 (.iload 7) 2 97 := dnAt dc_X5_addWaysThrough 54 rfl rfl
theorem d_X5_addWaysThrough_97 : dn cX5_addWaysThrough 97 (.bipush 70) 2 99 := dnAt dc_X5_addWaysThrough 55 rfl rfl
theorem d_X5_addWaysThrough_99 : dn cX5_addWaysThrough 99 (.if_icmp .ge 28) 3 102 := dnAt dc_X5_addWaysThrough 56 rfl rfl
theorem d_X5_addWaysThrough_102 : dn cX5_addWaysThrough 102 (.aload_n 0) 1 103 := dnAt dc_X5_addWaysThrough 57 rfl rfl
theorem d_X5_addWaysThrough_103 : dn cX5_addWaysThrough 103 (.iload 11) 2 105 := dnAt dc_X5_addWaysThrough 58 rfl rfl
theorem d_X5_addWaysThrough_105 : dn cX5_addWaysThrough 105 (.iload 5) 2 107 := dnAt dc_X5_addWaysThrough 59 rfl rfl
theorem d_X5_addWaysThrough_107 : dn cX5_addWaysThrough 107 (.iload 7) 2 109 := dnAt dc_X5_addWaysThrough 60 rfl rfl
theorem d_X5_addWaysThrough_109 : dn cX5_addWaysThrough 109 (.invokevirtual 66) 3 112 := dnAt dc_X5_addWaysThrough 61 rfl rfl
theorem d_X5_addWaysThrough_112 : dn cX5_addWaysThrough 112 (.ifCond .ne 15) 3 115 := dnAt dc_X5_addWaysThrough 62 rfl rfl
theorem d_X5_addWaysThrough_115 : dn cX5_addWaysThrough 115 (.aload_n 0) 1 116 := dnAt dc_X5_addWaysThrough 63 rfl rfl
theorem d_X5_addWaysThrough_116 : dn cX5_addWaysThrough 116 (.getfield 15) 3 119 := dnAt dc_X5_addWaysThrough 64 rfl rfl
theorem d_X5_addWaysThrough_119 : dn cX5_addWaysThrough 119 (.iload 7) 2 121 := dnAt dc_X5_addWaysThrough 65 rfl rfl
theorem d_X5_addWaysThrough_121 : dn cX5_addWaysThrough 121 (.iload 11) 2 123 := dnAt dc_X5_addWaysThrough 66 rfl rfl
theorem d_X5_addWaysThrough_123 : dn cX5_addWaysThrough 123 (.iastore) 1 124 := dnAt dc_X5_addWaysThrough 67 rfl rfl
theorem d_X5_addWaysThrough_124 : dn cX5_addWaysThrough 124 (.iinc 7 1) 3 127 := dnAt dc_X5_addWaysThrough 68 rfl rfl
theorem d_X5_addWaysThrough_127 : dn cX5_addWaysThrough 127 (.iinc 8 1) 3 130 := dnAt dc_X5_addWaysThrough 69 rfl rfl
theorem d_X5_addWaysThrough_130 : dn cX5_addWaysThrough 130 (.goto (-115)) 3 133 := dnAt dc_X5_addWaysThrough 70 rfl rfl
theorem d_X5_addWaysThrough_133 : dn cX5_addWaysThrough 133 (.iload 7) 2 135 := dnAt dc_X5_addWaysThrough 71 rfl rfl
theorem d_X5_addWaysThrough_135 : dn cX5_addWaysThrough 135 (.ireturn) 1 136 := dnAt dc_X5_addWaysThrough 72 rfl rfl
theorem adR_lt {g : mS} {x : pA} {c : tC3} {s p i : Nat} {wv : Nat → Nat} {k v : Nat} (h : v ∈ adR (ad1 g x c s p i) wv k) (hr : x.2.2.2.1 < 262144) (hi : i < 15) : v < 4194304 := by
  obtain ⟨j, _, e⟩ := adR_mem.mp h
  unfold ad1 at e
  split at e
  · cases e; exact way_lt hr hi
  · cases e
theorem spf_lt {f : Nat → Nat} {o z : Nat} {A : List Nat} (h : ∀ z, z < 140 → f z < 4194304) (hA : ∀ v, v ∈ A → v < 4194304) (hz : z < 140) : spf f o A z < 2147483648 := by
  unfold spf
  split
  · exact Nat.lt_trans (hA _ (getD_mem (by omega))) (by decide)
  · exact Nat.lt_trans (h z hz) (by decide)
set_option maxHeartbeats 4000000 in
set_option maxRecDepth 100000 in
theorem k_addWays {l : Launch} {G : eG} {ad : Nat → Nat → Nat} {h : hp} {g : mS} {f : Nat → Nat} {kc fr s p num a : Nat} {bb is : Bool} {y : pA} {T : Nat → tC3} (hm : co G ad (wst g f kc bb) h) (I : mInv g) (W : wkA G ad h T a y is) (hs : s < 2) (hp : p < 40) (hnum : num < y.1) (hkc : kc ≤ 70) (hok : ∀ j, j < kc → okW y.1 ((fun j => f (70 * wiB bb + j)) j)) (hfb : ∀ z, z < 140 → f z < 4194304) (hA : fr + ((adR (ad1 g y (T (y.2.2.2.2.2.2 num)) s p num) (fun j => f (70 * wiB bb + j)) kc)).length ≤ 70) : kC l G ad h yX5_addWaysThrough cX5_addWaysThrough 12 (Option.some Jvm.ClassFile.FieldType.int) { frames := 3, cells := 0, slots := 0, locals := 66 } [.ref (ad 5 0), .ref a, .int (nI num), .ref (ad 10 s), .int (nI p), .int (nI fr)] (fun v9 g9 _ => v9 = some (.int (nI (fr + ((adR (ad1 g y (T (y.2.2.2.2.2.2 num)) s p num) (fun j => f (70 * wiB bb + j)) kc)).length))) ∧ g9 = wst g (spf f (70 * siB bb + fr) (adR (ad1 g y (T (y.2.2.2.2.2.2 num)) s p num) (fun j => f (70 * wiB bb + j)) kc)) kc bb) := by
  refine kC.of hm (by decide) (Nat.le_of_ble_eq_true rfl) ?_
  intro x C A TY
  show VC G x ad h (wst g f kc bb) 0 0 0 [(0, .ref (ad 5 0)), (1, .ref a), (2, .int (nI num)), (3, .ref (ad 10 s)), (4, .int (nI p)), (5, .int (nI fr))] []
  obtain ⟨W1, W2, W3⟩ := id W
  obtain ⟨na, pt, pn, n1, n2, h1, h2, h3⟩ := id W1
  obtain ⟨⟨t1, t2, t3⟩, t4⟩ := W3 num hnum
  obtain ⟨nt, pp, np, ht, hpp⟩ := id t1
  have hn8 := W2.1.2
  refine c_aload_n C d_X5_addWaysThrough_0 1 rfl ?_
  refine c_getN C d_X5_addWaysThrough_1 fd_RX5_32 (na) (h1) (v := .ref pt) rfl ?_
  refine c_iload_n C d_X5_addWaysThrough_4 2 rfl ?_
  refine c_aaldN C d_X5_addWaysThrough_5 rfl (n1) (h2) (hnum) (by omega) (if_pos hnum) ?_
  refine c_astore C d_X5_addWaysThrough_6 (lv' := [(6, .ref (y.2.2.2.2.2.2 num)), (0, .ref (ad 5 0)), (1, .ref a), (2, .int (nI num)), (3, .ref (ad 10 s)), (4, .int (nI p)), (5, .int (nI fr))]) (by decide) rfl ?_
  refine c_iload C d_X5_addWaysThrough_8 6 rfl ?_
  refine c_istore C d_X5_addWaysThrough_10 (lv' := [(7, .int (nI fr)), (6, .ref (y.2.2.2.2.2.2 num)), (0, .ref (ad 5 0)), (1, .ref a), (2, .int (nI num)), (3, .ref (ad 10 s)), (4, .int (nI p)), (5, .int (nI fr))]) (by decide) rfl ?_
  refine c_iconst C d_X5_addWaysThrough_12 (v := (nI 0)) rfl ?_
  refine c_istore C d_X5_addWaysThrough_13 (lv' := [(8, .int (nI 0)), (7, .int (nI fr)), (6, .ref (y.2.2.2.2.2.2 num)), (0, .ref (ad 5 0)), (1, .ref a), (2, .int (nI num)), (3, .ref (ad 10 s)), (4, .int (nI p)), (5, .int (nI fr))]) (by decide) rfl ?_
  have loop_15 : ∀ (fuel : Nat) (k : Nat), (k ≤ kc) → (71 - k) < fuel → VC G x ad h (wst g (spf f (70 * siB bb + fr) (adR (ad1 g y (T (y.2.2.2.2.2.2 num)) s p num) (fun j => f (70 * wiB bb + j)) k)) kc bb) 0 0 15 [(8, .int (nI k)), (7, .int (nI (fr + ((adR (ad1 g y (T (y.2.2.2.2.2.2 num)) s p num) (fun j => f (70 * wiB bb + j)) k)).length))), (6, .ref (y.2.2.2.2.2.2 num)), (0, .ref (ad 5 0)), (1, .ref a), (2, .int (nI num)), (3, .ref (ad 10 s)), (4, .int (nI p)), (5, .int (nI fr))] [] := by
    intro fuel
    induction fuel with
    | zero => intro k hk hf9; exact absurd hf9 (Nat.not_lt_zero _)
    | succ fuel ih_15 =>
      intro k hk hf9
      refine c_iload C d_X5_addWaysThrough_15 0 rfl ?_
      refine c_aload_n C d_X5_addWaysThrough_17 3 rfl ?_
      refine c_get C d_X5_addWaysThrough_18 fd_RX5_18 (k := 5) (i' := 0) rfl rfl (v := .int (nI (mK (wst g (spf f (70 * siB bb + fr) (adR (ad1 g y (T (y.2.2.2.2.2.2 num)) s p num) (fun j => f (70 * wiB bb + j)) k)) kc bb) 41))) rfl ?_
      refine c_st (st' := [.int (nI kc), .int (nI k)]) (rfl) ?_
      refine cn_icmp_ge C d_X5_addWaysThrough_21 (tgt := 133) rfl (by omega) (by omega) (fun c_21 => ?_) (fun c_21 => ?_)
      · skip
        have e9 : k = kc := by omega
        refine c_iload C d_X5_addWaysThrough_133 1 rfl ?_
        refine c_st (st' := [.int (nI (fr + ((adR (ad1 g y (T (y.2.2.2.2.2.2 num)) s p num) (fun j => f (70 * wiB bb + j)) kc)).length))]) (by rw [e9]) ?_
        exact k_iret C A cfr_rf TY d_X5_addWaysThrough_135 rfl (Nat.le_of_ble_eq_true rfl) (Nat.le_of_ble_eq_true rfl) (fun h9 F9 => ⟨rfl, by rw [e9]⟩)
      · skip
        obtain ⟨hw1, hw2, hw3⟩ := hok k (by omega)
        replace hw1 : f (70 * wiB bb + k) < 4194304 := hw1
        replace hw2 : f (70 * wiB bb + k) &&& 15 ≤ y.1 := hw2
        have hAk : (adR (ad1 g y (T (y.2.2.2.2.2.2 num)) s p num) (fun j => f (70 * wiB bb + j)) (k + 1)) = adS (adR (ad1 g y (T (y.2.2.2.2.2.2 num)) s p num) (fun j => f (70 * wiB bb + j)) k) ((ad1 g y (T (y.2.2.2.2.2.2 num)) s p num) (f (70 * wiB bb + k))) := rfl
        have hA1 := adR_le (a := (ad1 g y (T (y.2.2.2.2.2.2 num)) s p num)) (wv := (fun j => f (70 * wiB bb + j))) (k := k + 1) (kc - (k + 1))
        rw [show k + 1 + (kc - (k + 1)) = kc by omega] at hA1
        have hA0 := adR_le (a := (ad1 g y (T (y.2.2.2.2.2.2 num)) s p num)) (wv := (fun j => f (70 * wiB bb + j))) (k := k) 1
        have hnx := nxF_lt W2 hw2
        have hwb := wsb bb
        refine c_aload_n C d_X5_addWaysThrough_24 3 rfl ?_
        refine c_get C d_X5_addWaysThrough_25 fd_RX5_11 (k := 5) (i' := 0) rfl rfl (v := .ref (ad 7 (wi (wst g (spf f (70 * siB bb + fr) (adR (ad1 g y (T (y.2.2.2.2.2.2 num)) s p num) (fun j => f (70 * wiB bb + j)) k)) kc bb)))) rfl ?_
        refine c_st (st' := [.ref (ad 7 (wiB bb))]) (rfl) ?_
        refine c_iload C d_X5_addWaysThrough_28 0 rfl ?_
        refine c_ald C d_X5_addWaysThrough_30 (k := 7) (i := wiB bb) (decide_eq_true (by have := wsb bb; omega)) rfl (by show _ < 70; omega) ?_
        refine c_st (st' := [.int (nI (f (70 * wiB bb + k)))]) (by rw [show mN (wst g (spf f (70 * siB bb + fr) (adR (ad1 g y (T (y.2.2.2.2.2.2 num)) s p num) (fun j => f (70 * wiB bb + j)) k)) kc bb) 50 (70 * wiB bb + k) = spf f (70 * siB bb + fr) (adR (ad1 g y (T (y.2.2.2.2.2.2 num)) s p num) (fun j => f (70 * wiB bb + j)) k) (70 * wiB bb + k) from rfl, spf_out (by have := wsb bb; have := adR_le (a := (ad1 g y (T (y.2.2.2.2.2.2 num)) s p num)) (wv := (fun j => f (70 * wiB bb + j))) (k := k) (kc - k); rw [show k + (kc - k) = kc by omega] at this; omega)]) ?_
        refine c_iconst C d_X5_addWaysThrough_31 (v := (nI 4)) rfl ?_
        refine cn_iushr C d_X5_addWaysThrough_32 (by omega) (by decide) ?_
        refine c_istore C d_X5_addWaysThrough_33 (lv' := [(9, .int (nI ((f (70 * wiB bb + k)) / 2 ^ 4))), (8, .int (nI k)), (7, .int (nI (fr + ((adR (ad1 g y (T (y.2.2.2.2.2.2 num)) s p num) (fun j => f (70 * wiB bb + j)) k)).length))), (6, .ref (y.2.2.2.2.2.2 num)), (0, .ref (ad 5 0)), (1, .ref a), (2, .int (nI num)), (3, .ref (ad 10 s)), (4, .int (nI p)), (5, .int (nI fr))]) (by decide) rfl ?_
        refine c_aload_n C d_X5_addWaysThrough_35 5 rfl ?_
        refine c_aload_n C d_X5_addWaysThrough_36 4 rfl ?_
        refine c_get C d_X5_addWaysThrough_37 fd_RX5_11 (k := 5) (i' := 0) rfl rfl (v := .ref (ad 7 (wi (wst g (spf f (70 * siB bb + fr) (adR (ad1 g y (T (y.2.2.2.2.2.2 num)) s p num) (fun j => f (70 * wiB bb + j)) k)) kc bb)))) rfl ?_
        refine c_st (st' := [.ref (ad 7 (wiB bb)), .ref a]) (rfl) ?_
        refine c_iload C d_X5_addWaysThrough_40 1 rfl ?_
        refine c_ald C d_X5_addWaysThrough_42 (k := 7) (i := wiB bb) (decide_eq_true (by have := wsb bb; omega)) rfl (by show _ < 70; omega) ?_
        refine c_st (st' := [.int (nI (f (70 * wiB bb + k))), .ref a]) (by rw [show mN (wst g (spf f (70 * siB bb + fr) (adR (ad1 g y (T (y.2.2.2.2.2.2 num)) s p num) (fun j => f (70 * wiB bb + j)) k)) kc bb) 50 (70 * wiB bb + k) = spf f (70 * siB bb + fr) (adR (ad1 g y (T (y.2.2.2.2.2.2 num)) s p num) (fun j => f (70 * wiB bb + j)) k) (70 * wiB bb + k) from rfl, spf_out (by have := wsb bb; have := adR_le (a := (ad1 g y (T (y.2.2.2.2.2.2 num)) s p num)) (wv := (fun j => f (70 * wiB bb + j))) (k := k) (kc - k); rw [show k + (kc - k) = kc by omega] at this; omega)]) ?_
        refine k_callS C d_X5_addWaysThrough_43 ok_RX5_51 (fun l h hm hf => k_nextsOf hm (W1.mv hf) hw2 (by omega)) (rest := []) rfl rfl (Nat.le_of_ble_eq_true rfl) ⟨⟨by decide, by decide⟩, Nat.le_of_ble_eq_true rfl, Nat.le_of_ble_eq_true rfl⟩ (fun v9 g9 hq1 e9 F1 => ?_)
        obtain ⟨rfl, z1⟩ := e9
        refine c_eq z1 ?_
        refine c_base F1 ?_
        show VC G x ad h (wst g (spf f (70 * siB bb + fr) (adR (ad1 g y (T (y.2.2.2.2.2.2 num)) s p num) (fun j => f (70 * wiB bb + j)) k)) kc bb) 0 0 46 [(9, .int (nI ((f (70 * wiB bb + k)) / 2 ^ 4))), (8, .int (nI k)), (7, .int (nI (fr + ((adR (ad1 g y (T (y.2.2.2.2.2.2 num)) s p num) (fun j => f (70 * wiB bb + j)) k)).length))), (6, .ref (y.2.2.2.2.2.2 num)), (0, .ref (ad 5 0)), (1, .ref a), (2, .int (nI num)), (3, .ref (ad 10 s)), (4, .int (nI p)), (5, .int (nI fr))] [.int (nI (nxF y.2.1 y.2.2.2.2.2.1 (f (70 * wiB bb + k))))]
        refine c_iload_n C d_X5_addWaysThrough_46 6 rfl ?_
        refine cn_ishr C d_X5_addWaysThrough_47 (by omega) (by omega) ?_
        refine c_iconst C d_X5_addWaysThrough_48 (v := (nI 1)) rfl ?_
        refine cn_iand C d_X5_addWaysThrough_49 ?_
        refine c_st (st' := [.int (nI (nxF y.2.1 y.2.2.2.2.2.1 (f (70 * wiB bb + k)) / 2 ^ num % 2))]) (by rw [and1]) ?_
        have join_127 : VC G x ad h (wst g (spf f (70 * siB bb + fr) (adR (ad1 g y (T (y.2.2.2.2.2.2 num)) s p num) (fun j => f (70 * wiB bb + j)) (k + 1))) kc bb) 0 0 127 [(8, .int (nI k)), (7, .int (nI (fr + ((adR (ad1 g y (T (y.2.2.2.2.2.2 num)) s p num) (fun j => f (70 * wiB bb + j)) (k + 1))).length))), (6, .ref (y.2.2.2.2.2.2 num)), (0, .ref (ad 5 0)), (1, .ref a), (2, .int (nI num)), (3, .ref (ad 10 s)), (4, .int (nI p)), (5, .int (nI fr))] [] := by
          refine cn_iinc C d_X5_addWaysThrough_127 (lv' := [(8, .int (nI (k + 1))), (7, .int (nI (fr + ((adR (ad1 g y (T (y.2.2.2.2.2.2 num)) s p num) (fun j => f (70 * wiB bb + j)) (k + 1))).length))), (6, .ref (y.2.2.2.2.2.2 num)), (0, .ref (ad 5 0)), (1, .ref a), (2, .int (nI num)), (3, .ref (ad 10 s)), (4, .int (nI p)), (5, .int (nI fr))]) 0 rfl (nI_inc _ rfl) (by decide) rfl ?_
          refine c_goto C d_X5_addWaysThrough_130 (tgt := 15) rfl ?_
          exact ih_15 (k + 1) (by omega) (by omega)
        refine cn_if_eq C d_X5_addWaysThrough_50 (tgt := 127) rfl (by omega) (fun c_50 => ?_) (fun c_50 => ?_)
        · skip
          refine c_lv (lv' := [(8, .int (nI k)), (7, .int (nI (fr + ((adR (ad1 g y (T (y.2.2.2.2.2.2 num)) s p num) (fun j => f (70 * wiB bb + j)) k)).length))), (6, .ref (y.2.2.2.2.2.2 num)), (0, .ref (ad 5 0)), (1, .ref a), (2, .int (nI num)), (3, .ref (ad 10 s)), (4, .int (nI p)), (5, .int (nI fr))]) [1, 2, 3, 4, 5, 6, 7, 8, 9] rfl ?_
          refine c_lve (lv' := [(8, .int (nI k)), (7, .int (nI (fr + ((adR (ad1 g y (T (y.2.2.2.2.2.2 num)) s p num) (fun j => f (70 * wiB bb + j)) (k + 1))).length))), (6, .ref (y.2.2.2.2.2.2 num)), (0, .ref (ad 5 0)), (1, .ref a), (2, .int (nI num)), (3, .ref (ad 10 s)), (4, .int (nI p)), (5, .int (nI fr))]) (by rw [show (adR (ad1 g y (T (y.2.2.2.2.2.2 num)) s p num) (fun j => f (70 * wiB bb + j)) (k + 1)) = adS (adR (ad1 g y (T (y.2.2.2.2.2.2 num)) s p num) (fun j => f (70 * wiB bb + j)) k) ((ad1 g y (T (y.2.2.2.2.2.2 num)) s p num) (f (70 * wiB bb + k))) from rfl, adS_no (show (ad1 g y (T (y.2.2.2.2.2.2 num)) s p num) (f (70 * wiB bb + k)) = none from if_neg (fun z => by have := z.1; omega))]) ?_
          refine c_eq (g' := wst g (spf f (70 * siB bb + fr) (adR (ad1 g y (T (y.2.2.2.2.2.2 num)) s p num) (fun j => f (70 * wiB bb + j)) (k + 1))) kc bb) (by rw [show (adR (ad1 g y (T (y.2.2.2.2.2.2 num)) s p num) (fun j => f (70 * wiB bb + j)) (k + 1)) = adS (adR (ad1 g y (T (y.2.2.2.2.2.2 num)) s p num) (fun j => f (70 * wiB bb + j)) k) ((ad1 g y (T (y.2.2.2.2.2.2 num)) s p num) (f (70 * wiB bb + k))) from rfl, adS_no (show (ad1 g y (T (y.2.2.2.2.2.2 num)) s p num) (f (70 * wiB bb + k)) = none from if_neg (fun z => by have := z.1; omega))]) ?_
          exact join_127  
        · skip
          refine c_aload C d_X5_addWaysThrough_53 3 rfl ?_
          refine c_aload_n C d_X5_addWaysThrough_55 7 rfl ?_
          refine c_iload C d_X5_addWaysThrough_56 8 rfl ?_
          refine c_iload C d_X5_addWaysThrough_58 0 rfl ?_
          refine k_callW C d_X5_addWaysThrough_60 ok_RX5_55 (fun l h hm hf => k_hasSame (t := f (70 * wiB bb + k) / 2 ^ 4) hm (t1.mv hf) (wst_I I) hs hp t2 (by omega) hw3) (nt) (ht) rfl rfl (rest := []) rfl rfl (Nat.le_of_ble_eq_true rfl) ⟨⟨by decide, by decide⟩, Nat.le_of_ble_eq_true rfl, Nat.le_of_ble_eq_true rfl⟩ (fun v9 g9 hq2 e9 F2 => ?_)
          obtain ⟨rfl, z2⟩ := e9
          refine c_eq z2 ?_
          refine c_base F2 ?_
          show VC G x ad h (wst g (spf f (70 * siB bb + fr) (adR (ad1 g y (T (y.2.2.2.2.2.2 num)) s p num) (fun j => f (70 * wiB bb + j)) k)) kc bb) 0 0 63 [(9, .int (nI ((f (70 * wiB bb + k)) / 2 ^ 4))), (8, .int (nI k)), (7, .int (nI (fr + ((adR (ad1 g y (T (y.2.2.2.2.2.2 num)) s p num) (fun j => f (70 * wiB bb + j)) k)).length))), (6, .ref (y.2.2.2.2.2.2 num)), (0, .ref (ad 5 0)), (1, .ref a), (2, .int (nI num)), (3, .ref (ad 10 s)), (4, .int (nI p)), (5, .int (nI fr))] [.int (bI (allTo (saF g (T (y.2.2.2.2.2.2 num)).2.1 (f (70 * wiB bb + k) / 2 ^ 4) s p) 9))]
          refine cb_if_ne C d_X5_addWaysThrough_63 (tgt := 69) rfl (fun c_63 => ?_) (fun c_63 => ?_)
          · skip
            have had : (ad1 g y (T (y.2.2.2.2.2.2 num)) s p num) (f (70 * wiB bb + k)) = some ((sbF (T (y.2.2.2.2.2.2 num)).2.2 (f (70 * wiB bb + k) / 2 ^ 4) p 3 &&& y.2.2.2.1) * 2 ^ 4 ||| (num + 1)) := if_pos ⟨by omega, c_63⟩
            refine c_aload C d_X5_addWaysThrough_69 3 rfl ?_
            refine c_iload C d_X5_addWaysThrough_71 0 rfl ?_
            refine c_iload C d_X5_addWaysThrough_73 8 rfl ?_
            refine k_callW C d_X5_addWaysThrough_75 ok_RX5_59 (fun l h hm hf => k_settingsBehind hm (t1.mv hf) t3) (nt) (ht) rfl rfl (rest := []) rfl rfl (Nat.le_of_ble_eq_true rfl) ⟨⟨by decide, by decide⟩, Nat.le_of_ble_eq_true rfl, Nat.le_of_ble_eq_true rfl⟩ (fun v9 g9 hq3 e9 F3 => ?_)
            obtain ⟨rfl, z3⟩ := e9
            refine c_eq z3 ?_
            refine c_base F3 ?_
            show VC G x ad h (wst g (spf f (70 * siB bb + fr) (adR (ad1 g y (T (y.2.2.2.2.2.2 num)) s p num) (fun j => f (70 * wiB bb + j)) k)) kc bb) 0 0 78 [(9, .int (nI ((f (70 * wiB bb + k)) / 2 ^ 4))), (8, .int (nI k)), (7, .int (nI (fr + ((adR (ad1 g y (T (y.2.2.2.2.2.2 num)) s p num) (fun j => f (70 * wiB bb + j)) k)).length))), (6, .ref (y.2.2.2.2.2.2 num)), (0, .ref (ad 5 0)), (1, .ref a), (2, .int (nI num)), (3, .ref (ad 10 s)), (4, .int (nI p)), (5, .int (nI fr))] [.int (nI (sbF (T (y.2.2.2.2.2.2 num)).2.2 (f (70 * wiB bb + k) / 2 ^ 4) p 3))]
            refine c_aload_n C d_X5_addWaysThrough_78 5 rfl ?_
            refine c_getN C d_X5_addWaysThrough_79 fd_RX5_63 (na) (h1) (v := .int (nI y.2.2.2.1)) rfl ?_
            refine cn_iand C d_X5_addWaysThrough_82 ?_
            refine c_istore C d_X5_addWaysThrough_83 (lv' := [(10, .int (nI ((sbF (T (y.2.2.2.2.2.2 num)).2.2 (f (70 * wiB bb + k) / 2 ^ 4) p 3) &&& y.2.2.2.1))), (9, .int (nI ((f (70 * wiB bb + k)) / 2 ^ 4))), (8, .int (nI k)), (7, .int (nI (fr + ((adR (ad1 g y (T (y.2.2.2.2.2.2 num)) s p num) (fun j => f (70 * wiB bb + j)) k)).length))), (6, .ref (y.2.2.2.2.2.2 num)), (0, .ref (ad 5 0)), (1, .ref a), (2, .int (nI num)), (3, .ref (ad 10 s)), (4, .int (nI p)), (5, .int (nI fr))]) (by decide) rfl ?_
            refine c_iload C d_X5_addWaysThrough_85 0 rfl ?_
            refine c_iconst C d_X5_addWaysThrough_87 (v := (nI 4)) rfl ?_
            refine cn_ishl C d_X5_addWaysThrough_88 (by omega) ?_
            refine c_iload_n C d_X5_addWaysThrough_89 7 rfl ?_
            refine c_iconst C d_X5_addWaysThrough_90 (v := (nI 1)) rfl ?_
            refine cn_iadd C d_X5_addWaysThrough_91 ?_
            refine cn_ior C d_X5_addWaysThrough_92 ?_
            refine c_istore C d_X5_addWaysThrough_93 (lv' := [(11, .int (nI ((((sbF (T (y.2.2.2.2.2.2 num)).2.2 (f (70 * wiB bb + k) / 2 ^ 4) p 3) &&& y.2.2.2.1) * 2 ^ 4) ||| (num + 1)))), (10, .int (nI ((sbF (T (y.2.2.2.2.2.2 num)).2.2 (f (70 * wiB bb + k) / 2 ^ 4) p 3) &&& y.2.2.2.1))), (9, .int (nI ((f (70 * wiB bb + k)) / 2 ^ 4))), (8, .int (nI k)), (7, .int (nI (fr + ((adR (ad1 g y (T (y.2.2.2.2.2.2 num)) s p num) (fun j => f (70 * wiB bb + j)) k)).length))), (6, .ref (y.2.2.2.2.2.2 num)), (0, .ref (ad 5 0)), (1, .ref a), (2, .int (nI num)), (3, .ref (ad 10 s)), (4, .int (nI p)), (5, .int (nI fr))]) (by decide) rfl ?_
            refine c_iload C d_X5_addWaysThrough_95 4 rfl ?_
            refine c_bipush C d_X5_addWaysThrough_97 (v := (nI 70)) rfl ?_
            refine cn_icmp_ge C d_X5_addWaysThrough_99 (tgt := 127) rfl (by omega) (by decide) (fun c_99 => ?_) (fun c_99 => ?_)
            · skip
              refine c_lv (lv' := [(8, .int (nI k)), (7, .int (nI (fr + ((adR (ad1 g y (T (y.2.2.2.2.2.2 num)) s p num) (fun j => f (70 * wiB bb + j)) k)).length))), (6, .ref (y.2.2.2.2.2.2 num)), (0, .ref (ad 5 0)), (1, .ref a), (2, .int (nI num)), (3, .ref (ad 10 s)), (4, .int (nI p)), (5, .int (nI fr))]) [3, 4, 5, 6, 7, 8, 9, 10, 11] rfl ?_
              refine c_lve (lv' := [(8, .int (nI k)), (7, .int (nI (fr + ((adR (ad1 g y (T (y.2.2.2.2.2.2 num)) s p num) (fun j => f (70 * wiB bb + j)) (k + 1))).length))), (6, .ref (y.2.2.2.2.2.2 num)), (0, .ref (ad 5 0)), (1, .ref a), (2, .int (nI num)), (3, .ref (ad 10 s)), (4, .int (nI p)), (5, .int (nI fr))]) (by rw [show (adR (ad1 g y (T (y.2.2.2.2.2.2 num)) s p num) (fun j => f (70 * wiB bb + j)) (k + 1)) = adS (adR (ad1 g y (T (y.2.2.2.2.2.2 num)) s p num) (fun j => f (70 * wiB bb + j)) k) ((ad1 g y (T (y.2.2.2.2.2.2 num)) s p num) (f (70 * wiB bb + k))) from rfl, adS_in had (Classical.byContradiction fun hno => by have z := adS_new had hno; rw [← hAk] at z; rw [z, List.length_append] at hA1; have z2 : [(sbF (T (y.2.2.2.2.2.2 num)).2.2 (f (70 * wiB bb + k) / 2 ^ 4) p 3 &&& y.2.2.2.1) * 2 ^ 4 ||| (num + 1)].length = 1 := rfl; omega)]) ?_
              refine c_eq (g' := wst g (spf f (70 * siB bb + fr) (adR (ad1 g y (T (y.2.2.2.2.2.2 num)) s p num) (fun j => f (70 * wiB bb + j)) (k + 1))) kc bb) (by rw [show (adR (ad1 g y (T (y.2.2.2.2.2.2 num)) s p num) (fun j => f (70 * wiB bb + j)) (k + 1)) = adS (adR (ad1 g y (T (y.2.2.2.2.2.2 num)) s p num) (fun j => f (70 * wiB bb + j)) k) ((ad1 g y (T (y.2.2.2.2.2.2 num)) s p num) (f (70 * wiB bb + k))) from rfl, adS_in had (Classical.byContradiction fun hno => by have z := adS_new had hno; rw [← hAk] at z; rw [z, List.length_append] at hA1; have z2 : [(sbF (T (y.2.2.2.2.2.2 num)).2.2 (f (70 * wiB bb + k) / 2 ^ 4) p 3 &&& y.2.2.2.1) * 2 ^ 4 ||| (num + 1)].length = 1 := rfl; omega)]) ?_
              exact join_127  
            · skip
              refine c_aload_n C d_X5_addWaysThrough_102 6 rfl ?_
              refine c_iload C d_X5_addWaysThrough_103 0 rfl ?_
              refine c_iload C d_X5_addWaysThrough_105 11 rfl ?_
              refine c_iload C d_X5_addWaysThrough_107 4 rfl ?_
              refine k_callV C d_X5_addWaysThrough_109 ok_RX5_66 (k := 5) (i' := 0) (fun l h hm hf => k_isSpareWay hm (Nat.lt_trans (way_lt W2.2.1.2.2 (by omega)) (by decide)) (by omega) (by omega) (fun j hj => by show spf f (70 * siB bb + fr) (adR (ad1 g y (T (y.2.2.2.2.2.2 num)) s p num) (fun j => f (70 * wiB bb + j)) k) (70 * siB bb + j) < 2147483648; exact spf_lt hfb (fun v hv => adR_lt hv W2.2.1.2.2 (by omega)) (by omega))) rfl rfl rfl rfl (rest := []) rfl rfl (Nat.le_of_ble_eq_true rfl) ⟨⟨by decide, by decide⟩, Nat.le_of_ble_eq_true rfl, Nat.le_of_ble_eq_true rfl⟩ (fun v9 g9 hq4 e9 F4 => ?_)
              obtain ⟨rfl, z4⟩ := e9
              refine c_eq z4 ?_
              refine c_base F4 ?_
              show VC G x ad h (wst g (spf f (70 * siB bb + fr) (adR (ad1 g y (T (y.2.2.2.2.2.2 num)) s p num) (fun j => f (70 * wiB bb + j)) k)) kc bb) 0 0 112 [(11, .int (nI ((((sbF (T (y.2.2.2.2.2.2 num)).2.2 (f (70 * wiB bb + k) / 2 ^ 4) p 3) &&& y.2.2.2.1) * 2 ^ 4) ||| (num + 1)))), (10, .int (nI ((sbF (T (y.2.2.2.2.2.2 num)).2.2 (f (70 * wiB bb + k) / 2 ^ 4) p 3) &&& y.2.2.2.1))), (9, .int (nI ((f (70 * wiB bb + k)) / 2 ^ 4))), (8, .int (nI k)), (7, .int (nI (fr + ((adR (ad1 g y (T (y.2.2.2.2.2.2 num)) s p num) (fun j => f (70 * wiB bb + j)) k)).length))), (6, .ref (y.2.2.2.2.2.2 num)), (0, .ref (ad 5 0)), (1, .ref a), (2, .int (nI num)), (3, .ref (ad 10 s)), (4, .int (nI p)), (5, .int (nI fr))] [.int (bI (haO (swF (wst g (spf f (70 * siB bb + fr) (adR (ad1 g y (T (y.2.2.2.2.2.2 num)) s p num) (fun j => f (70 * wiB bb + j)) k)) kc bb) ((sbF (T (y.2.2.2.2.2.2 num)).2.2 (f (70 * wiB bb + k) / 2 ^ 4) p 3 &&& y.2.2.2.1) * 2 ^ 4 ||| (num + 1)) fr) (fr + ((adR (ad1 g y (T (y.2.2.2.2.2.2 num)) s p num) (fun j => f (70 * wiB bb + j)) k)).length)))]
              refine cb_if_ne C d_X5_addWaysThrough_112 (tgt := 127) rfl (fun c_112 => ?_) (fun c_112 => ?_)
              · skip
                refine c_lv (lv' := [(8, .int (nI k)), (7, .int (nI (fr + ((adR (ad1 g y (T (y.2.2.2.2.2.2 num)) s p num) (fun j => f (70 * wiB bb + j)) k)).length))), (6, .ref (y.2.2.2.2.2.2 num)), (0, .ref (ad 5 0)), (1, .ref a), (2, .int (nI num)), (3, .ref (ad 10 s)), (4, .int (nI p)), (5, .int (nI fr))]) [3, 4, 5, 6, 7, 8, 9, 10, 11] rfl ?_
                refine c_lve (lv' := [(8, .int (nI k)), (7, .int (nI (fr + ((adR (ad1 g y (T (y.2.2.2.2.2.2 num)) s p num) (fun j => f (70 * wiB bb + j)) (k + 1))).length))), (6, .ref (y.2.2.2.2.2.2 num)), (0, .ref (ad 5 0)), (1, .ref a), (2, .int (nI num)), (3, .ref (ad 10 s)), (4, .int (nI p)), (5, .int (nI fr))]) (by rw [show (adR (ad1 g y (T (y.2.2.2.2.2.2 num)) s p num) (fun j => f (70 * wiB bb + j)) (k + 1)) = adS (adR (ad1 g y (T (y.2.2.2.2.2.2 num)) s p num) (fun j => f (70 * wiB bb + j)) k) ((ad1 g y (T (y.2.2.2.2.2.2 num)) s p num) (f (70 * wiB bb + k))) from rfl, adS_in had (of_decide_eq_true (sw_mem.symm.trans c_112))]) ?_
                refine c_eq (g' := wst g (spf f (70 * siB bb + fr) (adR (ad1 g y (T (y.2.2.2.2.2.2 num)) s p num) (fun j => f (70 * wiB bb + j)) (k + 1))) kc bb) (by rw [show (adR (ad1 g y (T (y.2.2.2.2.2.2 num)) s p num) (fun j => f (70 * wiB bb + j)) (k + 1)) = adS (adR (ad1 g y (T (y.2.2.2.2.2.2 num)) s p num) (fun j => f (70 * wiB bb + j)) k) ((ad1 g y (T (y.2.2.2.2.2.2 num)) s p num) (f (70 * wiB bb + k))) from rfl, adS_in had (of_decide_eq_true (sw_mem.symm.trans c_112))]) ?_
                exact join_127  
              · skip
                refine c_aload_n C d_X5_addWaysThrough_115 6 rfl ?_
                refine c_get C d_X5_addWaysThrough_116 fd_RX5_15 (k := 5) (i' := 0) rfl rfl (v := .ref (ad 7 (si (wst g (spf f (70 * siB bb + fr) (adR (ad1 g y (T (y.2.2.2.2.2.2 num)) s p num) (fun j => f (70 * wiB bb + j)) k)) kc bb)))) rfl ?_
                refine c_st (st' := [.ref (ad 7 (siB bb))]) (rfl) ?_
                refine c_iload C d_X5_addWaysThrough_119 4 rfl ?_
                refine c_iload C d_X5_addWaysThrough_121 0 rfl ?_
                refine c_ast C d_X5_addWaysThrough_123 (k := 7) (i := siB bb) (v := (((sbF (T (y.2.2.2.2.2.2 num)).2.2 (f (70 * wiB bb + k) / 2 ^ 4) p 3) &&& y.2.2.2.1) * 2 ^ 4) ||| (num + 1)) (decide_eq_true (by have := wsb bb; omega)) rfl (by show _ < 70; omega) ?_
                refine cn_iinc C d_X5_addWaysThrough_124 (lv' := [(7, .int (nI (fr + ((adR (ad1 g y (T (y.2.2.2.2.2.2 num)) s p num) (fun j => f (70 * wiB bb + j)) k)).length + 1))), (11, .int (nI ((((sbF (T (y.2.2.2.2.2.2 num)).2.2 (f (70 * wiB bb + k) / 2 ^ 4) p 3) &&& y.2.2.2.1) * 2 ^ 4) ||| (num + 1)))), (10, .int (nI ((sbF (T (y.2.2.2.2.2.2 num)).2.2 (f (70 * wiB bb + k) / 2 ^ 4) p 3) &&& y.2.2.2.1))), (9, .int (nI ((f (70 * wiB bb + k)) / 2 ^ 4))), (8, .int (nI k)), (6, .ref (y.2.2.2.2.2.2 num)), (0, .ref (ad 5 0)), (1, .ref a), (2, .int (nI num)), (3, .ref (ad 10 s)), (4, .int (nI p)), (5, .int (nI fr))]) 4 rfl (nI_inc _ rfl) (by decide) rfl ?_
                refine c_lv (lv' := [(8, .int (nI k)), (7, .int (nI (fr + ((adR (ad1 g y (T (y.2.2.2.2.2.2 num)) s p num) (fun j => f (70 * wiB bb + j)) k)).length + 1))), (6, .ref (y.2.2.2.2.2.2 num)), (0, .ref (ad 5 0)), (1, .ref a), (2, .int (nI num)), (3, .ref (ad 10 s)), (4, .int (nI p)), (5, .int (nI fr))]) [4, 0, 5, 6, 7, 8, 9, 10, 11] rfl ?_
                refine c_lve (lv' := [(8, .int (nI k)), (7, .int (nI (fr + ((adR (ad1 g y (T (y.2.2.2.2.2.2 num)) s p num) (fun j => f (70 * wiB bb + j)) (k + 1))).length))), (6, .ref (y.2.2.2.2.2.2 num)), (0, .ref (ad 5 0)), (1, .ref a), (2, .int (nI num)), (3, .ref (ad 10 s)), (4, .int (nI p)), (5, .int (nI fr))]) (by rw [show (adR (ad1 g y (T (y.2.2.2.2.2.2 num)) s p num) (fun j => f (70 * wiB bb + j)) (k + 1)) = adS (adR (ad1 g y (T (y.2.2.2.2.2.2 num)) s p num) (fun j => f (70 * wiB bb + j)) k) ((ad1 g y (T (y.2.2.2.2.2.2 num)) s p num) (f (70 * wiB bb + k))) from rfl, adS_new had (fun z => by rw [sw_mem.trans (decide_eq_true z)] at c_112; cases c_112), List.length_append]; rfl) ?_
                refine c_eq (g' := wst g (spf f (70 * siB bb + fr) (adR (ad1 g y (T (y.2.2.2.2.2.2 num)) s p num) (fun j => f (70 * wiB bb + j)) (k + 1))) kc bb) (by rw [show (adR (ad1 g y (T (y.2.2.2.2.2.2 num)) s p num) (fun j => f (70 * wiB bb + j)) (k + 1)) = adS (adR (ad1 g y (T (y.2.2.2.2.2.2 num)) s p num) (fun j => f (70 * wiB bb + j)) k) ((ad1 g y (T (y.2.2.2.2.2.2 num)) s p num) (f (70 * wiB bb + k))) from rfl, adS_new had (fun z => by rw [sw_mem.trans (decide_eq_true z)] at c_112; cases c_112), ← wst_1, Nat.add_assoc]) ?_
                exact join_127  
          · skip
            refine c_goto C d_X5_addWaysThrough_66 (tgt := 127) rfl ?_
            refine c_lv (lv' := [(8, .int (nI k)), (7, .int (nI (fr + ((adR (ad1 g y (T (y.2.2.2.2.2.2 num)) s p num) (fun j => f (70 * wiB bb + j)) k)).length))), (6, .ref (y.2.2.2.2.2.2 num)), (0, .ref (ad 5 0)), (1, .ref a), (2, .int (nI num)), (3, .ref (ad 10 s)), (4, .int (nI p)), (5, .int (nI fr))]) [1, 2, 3, 4, 5, 6, 7, 8, 9] rfl ?_
            refine c_lve (lv' := [(8, .int (nI k)), (7, .int (nI (fr + ((adR (ad1 g y (T (y.2.2.2.2.2.2 num)) s p num) (fun j => f (70 * wiB bb + j)) (k + 1))).length))), (6, .ref (y.2.2.2.2.2.2 num)), (0, .ref (ad 5 0)), (1, .ref a), (2, .int (nI num)), (3, .ref (ad 10 s)), (4, .int (nI p)), (5, .int (nI fr))]) (by rw [show (adR (ad1 g y (T (y.2.2.2.2.2.2 num)) s p num) (fun j => f (70 * wiB bb + j)) (k + 1)) = adS (adR (ad1 g y (T (y.2.2.2.2.2.2 num)) s p num) (fun j => f (70 * wiB bb + j)) k) ((ad1 g y (T (y.2.2.2.2.2.2 num)) s p num) (f (70 * wiB bb + k))) from rfl, adS_no (show (ad1 g y (T (y.2.2.2.2.2.2 num)) s p num) (f (70 * wiB bb + k)) = none from if_neg (fun z => by rw [c_63] at z; cases z.2))]) ?_
            refine c_eq (g' := wst g (spf f (70 * siB bb + fr) (adR (ad1 g y (T (y.2.2.2.2.2.2 num)) s p num) (fun j => f (70 * wiB bb + j)) (k + 1))) kc bb) (by rw [show (adR (ad1 g y (T (y.2.2.2.2.2.2 num)) s p num) (fun j => f (70 * wiB bb + j)) (k + 1)) = adS (adR (ad1 g y (T (y.2.2.2.2.2.2 num)) s p num) (fun j => f (70 * wiB bb + j)) k) ((ad1 g y (T (y.2.2.2.2.2.2 num)) s p num) (f (70 * wiB bb + k))) from rfl, adS_no (show (ad1 g y (T (y.2.2.2.2.2.2 num)) s p num) (f (70 * wiB bb + k)) = none from if_neg (fun z => by rw [c_63] at z; cases z.2))]) ?_
            exact join_127  
  refine c_lve (lv' := [(8, .int (nI 0)), (7, .int (nI (fr + ((adR (ad1 g y (T (y.2.2.2.2.2.2 num)) s p num) (fun j => f (70 * wiB bb + j)) 0)).length))), (6, .ref (y.2.2.2.2.2.2 num)), (0, .ref (ad 5 0)), (1, .ref a), (2, .int (nI num)), (3, .ref (ad 10 s)), (4, .int (nI p)), (5, .int (nI fr))]) (rfl) ?_
  refine c_eq (g' := wst g (spf f (70 * siB bb + fr) (adR (ad1 g y (T (y.2.2.2.2.2.2 num)) s p num) (fun j => f (70 * wiB bb + j)) 0)) kc bb) (by rw [show adR (ad1 g y (T (y.2.2.2.2.2.2 num)) s p num) (fun j => f (70 * wiB bb + j)) 0 = [] from rfl, spf_nil]) ?_
  exact loop_15 _ 0 (by omega) (Nat.lt_succ_self _)
