theorem tw_599 : (Jvm.Cond.methodLink "Corpusline" (217 : Nat) ({ cls := "Corpusline", name := "countGroups", desc := "(LCorpusline$Result;IZ)V" } : Jvm.MethodName)) ∈ TB := tb_of 599 (by decide +kernel) rfl
theorem tw_601 : (Jvm.Cond.instanceMethod ({ cls := "Corpusline", name := "countGroups", desc := "(LCorpusline$Result;IZ)V" } : Jvm.MethodName)) ∈ TB := tb_of 601 (by decide +kernel) rfl
theorem tw_602 : (Jvm.Cond.code ({ cls := "Corpusline", name := "countGroups", desc := "(LCorpusline$Result;IZ)V" } : Jvm.MethodName) prog_1_method_41_code (8 : Nat) (Option.none : Option Jvm.ClassFile.FieldType)) ∈ TB := tb_of 602 (by decide +kernel) rfl
theorem ts_16 : Cond.selects "Corpusline" ({ cls := "Corpusline", name := "countGroups", desc := "(LCorpusline$Result;IZ)V" } : MethodName) ({ cls := "Corpusline", name := "countGroups", desc := "(LCorpusline$Result;IZ)V" } : MethodName) ∈ TB := tb_sel 16 (by decide +kernel) rfl
theorem ok_RX6_217 : okV RX6 217 yX6_countGroups cX6_countGroups 8 (Option.none : Option Jvm.ClassFile.FieldType) 3 := ⟨tw_599, tw_601, ts_16, tw_1, tw_602, ⟨by decide, by decide, by decide +kernel⟩⟩
/-- the class's group counts -/
def cuF (g : mS) (r a : Nat) (L : Bool) (j : Nat) : Nat → Nat := fun z => if z < 100 then cvM g r a L j z else mN g 52 z
def cuS (g : mS) (r a : Nat) (L : Bool) (j : Nat) : mS := sN g 52 (cuF g r a L j)
def cuZ (g : mS) (k : Nat) : mS := sN g 52 (fun z => if z < k then 0 else mN g 52 z)
theorem cv_F {g : mS} {r a : Nat} {L : Bool} {k : Nat} (h : ¬ hasB g r k = true) : cvM g r a L (k + 1) = cvM g r a L k := by
  funext z; unfold cvM; rw [sumTo, if_neg (fun q => h q.1), Nat.add_zero]
theorem cv_rest {g : mS} {r a : Nat} {L : Bool} {k : Nat} : ∀ j, (∀ i, k ≤ i → i < k + j → ¬ hasB g r i = true) → cvM g r a L (k + j) = cvM g r a L k
  | 0, _ => rfl
  | j + 1, h => by rw [← Nat.add_assoc, cv_F (h _ (by omega) (by omega)), cv_rest j (fun i a b => h i a (by omega))]
theorem cu_step {g : mS} {r a k : Nat} {L : Bool} (h : hasB g r k = true) (hv : vlM g r a L k < 100) : uN (cuS g r a L k) 52 (100 * 0 + vlM g r a L k) (cvM g r a L k (vlM g r a L k) + 1) = cuS g r a L (k + 1) := by
  unfold cuS
  rw [sN_step (g := cuF g r a L (k + 1))]
  intro z
  unfold cuF cvM
  rw [sumTo]
  by_cases e : z = vlM g r a L k
  · rw [if_pos (by omega), if_pos (by omega), if_pos ⟨h, e.symm⟩, e]
  · rw [if_neg (show ¬ z = 100 * 0 + vlM g r a L k by omega), if_neg (show ¬ (hasB g r k = true ∧ vlM g r a L k = z) from fun y => e y.2.symm)]; rfl
theorem hasB_lim {g : mS} (I : mInv g) {r s : Nat} (hr : r < 8) (hs : s < 2) (e : mI g 20 r = nI s) {k q : Nat} (hk : k < 40) (hq : q < 9) (h : hasB g r (9 * k + q) = true) : k + q ≤ mN g 1 s := by
  rw [hasB_at hq] at h
  exact I.2.2.2.2.2.2.2.2.2.2.2.2.2.2.1 r s hr hs e k hk q hq (of_decide_eq_true h)
theorem cv_lim {g : mS} (I : mInv g) {r s a : Nat} {L : Bool} (hr : r < 8) (hs : s < 2) (e : mI g 20 r = nI s) {k q : Nat} (hk : k < 40) (hq : q ≤ 9) (h : mN g 1 s < k + q) : cvM g r a L (9 * k + q) = cvM g r a L (9 * (k + 1)) := by
  rw [show 9 * (k + 1) = 9 * k + q + (9 - q) by omega]
  exact (cv_rest (9 - q) (fun i h1 h2 z => by
    have := hasB_lim I hr hs e hk (q := i - 9 * k) (by omega) (by rw [show 9 * k + (i - 9 * k) = i by omega]; exact z)
    omega)).symm
theorem cv_lim2 {g : mS} (I : mInv g) {r s a : Nat} {L : Bool} (hr : r < 8) (hs : s < 2) (e : mI g 20 r = nI s) {k : Nat} (hk : k ≤ 40) (h : mN g 1 s ≤ k) : cvM g r a L (9 * k) = cvM g r a L 360 := by
  rw [show 360 = 9 * k + (360 - 9 * k) by omega]
  exact (cv_rest (360 - 9 * k) (fun i h1 h2 z => by
    have h0 : hasB g r (9 * (i / 9) + i % 9) = true := by rw [show 9 * (i / 9) + i % 9 = i by omega]; exact z
    have := hasB_lim I hr hs e (k := i / 9) (by omega) (q := i % 9) (by omega) h0
    have h3 := (sz_b I hr (i / 9) (by omega)).2
    have h4 : i % 9 ≠ 0 := fun y => by
      rw [hasB_at (by omega), y, Nat.pow_zero, Nat.div_one, h3] at h0
      cases h0
    omega)).symm
theorem sd_54 {g : mS} (J : rInv g) {r : Nat} (hr : r < 8) (h : mI g 20 r ≠ -1) : sdR g r = mN g 54 r := by
  obtain ⟨e, h2⟩ := (J r hr).2 h
  unfold sdR
  rw [e]
  by_cases c : mN g 54 r = 1
  · rw [c]; rfl
  · rw [if_neg (fun y => c (nI_inj (by omega) (by omega) y))]; omega
theorem sumTo_add {f g : Nat → Nat} : ∀ k, sumTo (fun j => f j + g j) k = sumTo f k + sumTo g k
  | 0 => rfl
  | k + 1 => by rw [sumTo, sumTo, sumTo, sumTo_add k]; omega
theorem sumTo_one {v c : Nat} : ∀ k, sumTo (fun j => if j = v then c else 0) k = if v < k then c else 0
  | 0 => by rw [sumTo, if_neg (by omega)]
  | k + 1 => by
    rw [sumTo, sumTo_one k]
    by_cases e : k = v
    · subst e; rw [if_pos rfl, if_neg (by omega), if_pos (by omega), Nat.zero_add]
    · rw [if_neg e]
      by_cases d : v < k
      · rw [if_pos d, if_pos (by omega)]; rfl
      · rw [if_neg d, if_neg (by omega)]
theorem sumTo_congr {f g : Nat → Nat} : ∀ {k}, (∀ j, j < k → f j = g j) → sumTo f k = sumTo g k
  | 0, _ => rfl
  | k + 1, h => by rw [sumTo, sumTo, sumTo_congr (fun j hj => h j (by omega)), h k (by omega)]
theorem nd_cnt {g : mS} {r a : Nat} {L : Bool} (hv : ∀ k, k < 360 → hasB g r k = true → vlM g r a L k < 100) : ∀ k, k ≤ 360 → ndM g r a L k = sumTo (fun v => if 0 < cvM g r a L k v then 1 else 0) 100
  | 0, _ => by
    have h9 := sumTo_le (f := fun v => if 0 < cvM g r a L 0 v then 1 else 0) (c := 0) (k := 100) (fun j _ => by show (if 0 < cvM g r a L 0 j then 1 else 0) ≤ 0; rw [if_neg (by show ¬ 0 < sumTo _ 0; rw [sumTo]; omega)]; exact Nat.le_refl _)
    rw [ndM]; omega
  | k + 1, hk => by
    rw [ndM, nd_cnt hv k (by omega)]
    by_cases hb : hasB g r k = true
    · have h1 := hv k (by omega) hb
      have e : ∀ z, cvM g r a L (k + 1) z = cvM g r a L k z + if z = vlM g r a L k then 1 else 0 := fun z => by
        unfold cvM; rw [sumTo]
        by_cases c : z = vlM g r a L k
        · rw [if_pos c, if_pos ⟨hb, c.symm⟩]
        · rw [if_neg c, if_neg (fun y => c y.2.symm)]
      rw [show sumTo (fun v => if 0 < cvM g r a L (k + 1) v then 1 else 0) 100 = sumTo (fun v => (if 0 < cvM g r a L k v then 1 else 0) + if v = vlM g r a L k then (if cvM g r a L k (vlM g r a L k) = 0 then 1 else 0) else 0) 100 from sumTo_congr (fun v _ => by
        rw [e]
        by_cases c : v = vlM g r a L k
        · rw [if_pos c, if_pos c, c]
          by_cases d : cvM g r a L k (vlM g r a L k) = 0
          · rw [if_pos d, d]; rfl
          · rw [if_neg d, if_pos (by omega), if_pos (by omega)]
        · rw [if_neg c, if_neg c, Nat.add_zero, Nat.add_zero]), sumTo_add, sumTo_one, if_pos h1]
      by_cases d : cvM g r a L k (vlM g r a L k) = 0
      · rw [if_pos ⟨hb, d⟩, if_pos d]
      · rw [if_neg (fun y => d y.2), if_neg d]
    · rw [if_neg (fun y => hb y.1), cv_F hb, Nat.add_zero]
theorem vl_lt {g : mS} (I : mInv g) {r a : Nat} (hr : r < 8) (h : mI g 20 r ≠ -1) (ha : a < 3) (L : Bool) : ∀ k, k < 360 → hasB g r k = true → vlM g r a L k < 100 := fun k hk hb => by
  have := (pl_lt I hr h hk (of_decide_eq_true hb) L).1
  have h2 := sdR_lt g r
  exact I.2.1 _ (by omega)
def dl_X6_countGroups : List (Nat × Instr × Nat) := [(0, .iconst 0, 1), (1, .istore 4, 2), (3, .iload 4, 2), (5, .bipush 100, 2), (7, .if_icmp .ge 17, 3), (10, .aload_n 0, 1), (11, .getfield 47, 3), (14, .iload 4, 2), (16, .iconst 0, 1), (17, .iastore, 1), (18, .iinc 4 1, 3), (21, .goto (-18), 3), (24, .aload_n 0, 1), (25, .getfield 11, 3), (28, .aload_n 1, 1), (29, .getfield 188, 3), (32, .aaload, 1), (33, .astore 4, 2), (35, .iconst 0, 1), (36, .istore 5, 2), (38, .iload 5, 2), (40, .aload 4, 2), (42, .getfield 61, 3), (45, .if_icmp .ge 88, 3), (48, .iconst 1, 1), (49, .istore 6, 2), (51, .iload 6, 2), (53, .bipush 8, 2), (55, .if_icmp .gt 72, 3), (58, .iload 5, 2), (60, .iload 6, 2), (62, .iadd, 1), (63, .aload 4, 2), (65, .getfield 61, 3), (68, .if_icmp .gt 59, 3), (71, .aload_n 1, 1), (72, .getfield 178, 3), (75, .iload 5, 2), (77, .iaload, 1), (78, .iload 6, 2), (80, .ishr, 1), (81, .iconst 1, 1), (82, .iand, 1), (83, .ifCond .eq 38, 3), (86, .iload_n 3, 1), (87, .ifCond .eq 13, 3), (90, .iload 5, 2), (92, .iload 6, 2), (94, .iadd, 1), (95, .iconst 1, 1), (96, .isub, 1), (97, .goto 5, 3), (100, .iload 5, 2), (102, .istore 7, 2), (104, .aload_n 0, 1), (105, .getfield 47, 3), (108, .aload 4, 2), (110, .iload 7, 2), (112, .iload_n 2, 1), (113, .invokevirtual 102, 3), (116, .dup2, 1), (117, .iaload, 1), (118, .iconst 1, 1), (119, .iadd, 1), (120, .iastore, 1), (121, .iinc 6 1, 3), (124, .goto (-73), 3), (127, .iinc 5 1, 3), (130, .goto (-92), 3), (133, .return_, 1)]
theorem dc_X6_countGroups : dnL cX6_countGroups dl_X6_countGroups = true := by decide +kernel
theorem d_X6_countGroups_0 : dn cX6_countGroups 0 (.iconst 0) 1 1 := dnAt dc_X6_countGroups 0 rfl rfl
theorem d_X6_countGroups_1 : dn cX6_countGroups 1 (.istore 4) 2 3 := dnAt dc_X6_countGroups 1 rfl rfl
theorem d_X6_countGroups_3 : dn cX6_countGroups 3 (.iload 4) 2 5 := dnAt dc_X6_countGroups 2 rfl rfl
theorem d_X6_countGroups_5 : dn cX6_countGroups 5 (.bipush 100) 2 7 := dnAt dc_X6_countGroups 3 rfl rfl
theorem d_X6_countGroups_7 : dn cX6_countGroups 7 (.if_icmp .ge 17) 3 10 := dnAt dc_X6_countGroups 4 rfl rfl
theorem d_X6_countGroups_10 : dn cX6_countGroups 10 (.aload_n 0) 1 11 := dnAt dc_X6_countGroups 5 rfl rfl
theorem d_X6_countGroups_11 : dn cX6_countGroups 11 (.getfield 47) 3 14 := dnAt dc_X6_countGroups 6 rfl rfl
theorem d_X6_countGroups_14 : dn cX6_countGroups 14 (.iload 4) 2 16 := dnAt dc_X6_countGroups 7 rfl rfl
theorem d_X6_countGroups_16 : dn cX6_countGroups 16 (.iconst 0) 1 17 := dnAt dc_X6_countGroups 8 rfl rfl
theorem d_X6_countGroups_17 : dn cX6_countGroups 17 (.iastore) 1 18 := dnAt dc_X6_countGroups 9 rfl rfl
theorem d_X6_countGroups_18 : dn cX6_countGroups 18 (.iinc 4 1) 3 21 := dnAt dc_X6_countGroups 10 rfl rfl
theorem d_X6_countGroups_21 : dn cX6_countGroups 21 (.goto (-18)) 3 24 := dnAt dc_X6_countGroups 11 rfl rfl
theorem d_X6_countGroups_24 : dn cX6_countGroups 24 (.aload_n 0) 1 25 := dnAt dc_X6_countGroups 12 rfl rfl
theorem d_X6_countGroups_25 : dn cX6_countGroups 25 (.getfield 11) 3 28 := dnAt dc_X6_countGroups 13 rfl rfl
theorem d_X6_countGroups_28 : dn cX6_countGroups 28 (.aload_n 1) 1 29 := dnAt dc_X6_countGroups 14 rfl rfl
theorem d_X6_countGroups_29 : dn cX6_countGroups 29 (.getfield 188) 3 32 := dnAt dc_X6_countGroups 15 rfl rfl
theorem d_X6_countGroups_32 : dn cX6_countGroups 32 (.aaload) 1 33 := dnAt dc_X6_countGroups 16 rfl rfl
theorem d_X6_countGroups_33 : dn cX6_countGroups 33 (.astore 4) 2 35 := dnAt dc_X6_countGroups 17 rfl rfl
theorem d_X6_countGroups_35 : dn cX6_countGroups 35 (.iconst 0) 1 36 := dnAt dc_X6_countGroups 18 rfl rfl
theorem d_X6_countGroups_36 : dn cX6_countGroups 36 (.istore 5) 2 38 := dnAt dc_X6_countGroups 19 rfl rfl
theorem d_X6_countGroups_38 : dn cX6_countGroups 38 (.iload 5) 2 40 := dnAt dc_X6_countGroups 20 rfl rfl
theorem d_X6_countGroups_40 : dn cX6_countGroups 40 (.aload 4) 2 42 := dnAt dc_X6_countGroups 21 rfl rfl
theorem d_X6_countGroups_42 : dn cX6_countGroups 42 (.getfield 61) 3 45 := dnAt dc_X6_countGroups 22 rfl rfl
theorem d_X6_countGroups_45 : dn cX6_countGroups 45 (.if_icmp .ge 88) 3 48 := dnAt dc_X6_countGroups 23 rfl rfl
theorem d_X6_countGroups_48 : dn cX6_countGroups 48 (.iconst 1) 1 49 := dnAt dc_X6_countGroups 24 rfl rfl
theorem d_X6_countGroups_49 : dn cX6_countGroups 49 (.istore 6) 2 51 := dnAt dc_X6_countGroups 25 rfl rfl
theorem d_X6_countGroups_51 : dn cX6_countGroups 51 (.iload 6) 2 53 := dnAt dc_X6_countGroups 26 rfl rfl
theorem d_X6_countGroups_53 : dn cX6_countGroups 53 (.bipush 8) 2 55 := dnAt dc_X6_countGroups 27 rfl rfl
theorem d_X6_countGroups_55 : dn cX6_countGroups 55 (.if_icmp .gt 72) 3 58 := dnAt dc_X6_countGroups 28 rfl rfl
theorem d_X6_countGroups_58 : dn cX6_countGroups 58 (.iload 5) 2 60 := dnAt dc_X6_countGroups 29 rfl rfl
theorem d_X6_countGroups_60 : dn cX6_countGroups 60 (.iload 6) 2 62 := dnAt dc_X6_countGroups 30 rfl rfl
theorem d_X6_countGroups_62 : dn cX6_countGroups 62 (.iadd) 1 63 := dnAt dc_X6_countGroups 31 rfl rfl
theorem d_X6_countGroups_63 : dn cX6_countGroups 63 (.aload 4) 2 65 := dnAt dc_X6_countGroups 32 rfl rfl
theorem d_X6_countGroups_65 : dn cX6_countGroups 65 (.getfield 61) 3 68 := dnAt dc_X6_countGroups 33 rfl rfl
theorem d_X6_countGroups_68 : dn cX6_countGroups 68 (.if_icmp .gt 59) 3 71 := dnAt dc_X6_countGroups 34 rfl rfl
theorem d_X6_countGroups_71 : dn cX6_countGroups 71 (.aload_n 1) 1 72 := dnAt dc_X6_countGroups 35 rfl rfl
theorem d_X6_countGroups_72 : dn cX6_countGroups 72 (.getfield 178) 3 75 := dnAt dc_X6_countGroups 36 rfl rfl
theorem d_X6_countGroups_75 : dn cX6_countGroups 75 (.iload 5) 2 77 := dnAt dc_X6_countGroups 37 rfl rfl
theorem d_X6_countGroups_77 : dn cX6_countGroups 77 (.iaload) 1 78 := dnAt dc_X6_countGroups 38 rfl rfl
theorem d_X6_countGroups_78 : dn cX6_countGroups 78 (.iload 6) 2 80 := dnAt dc_X6_countGroups 39 rfl rfl
theorem d_X6_countGroups_80 : dn cX6_countGroups 80 (.ishr) 1 81 := dnAt dc_X6_countGroups 40 rfl rfl
theorem d_X6_countGroups_81 : dn cX6_countGroups 81 (.iconst 1) 1 82 := dnAt dc_X6_countGroups 41 rfl rfl
theorem d_X6_countGroups_82 : dn cX6_countGroups 82 (.iand) 1 83 := dnAt dc_X6_countGroups 42 rfl rfl
theorem d_X6_countGroups_83 : dn cX6_countGroups 83 (.ifCond .eq 38) 3 86 := dnAt dc_X6_countGroups 43 rfl rfl
theorem d_X6_countGroups_86 : dn cX6_countGroups 86 (.iload_n 3) 1 87 := dnAt dc_X6_countGroups 44 rfl rfl
theorem d_X6_countGroups_87 : dn cX6_countGroups 87 (.ifCond .eq 13) 3 90 := dnAt dc_X6_countGroups 45 rfl rfl
theorem d_X6_countGroups_90 : dn cX6_countGroups 90 (.iload 5) 2 92 := dnAt dc_X6_countGroups 46 rfl rfl
theorem d_X6_countGroups_92 : dn cX6_countGroups 92 (.iload 6) 2 94 := dnAt dc_X6_countGroups 47 rfl rfl
theorem d_X6_countGroups_94 : dn cX6_countGroups 94 (.iadd) 1 95 := dnAt dc_X6_countGroups 48 rfl rfl
theorem d_X6_countGroups_95 : dn cX6_countGroups 95 (.iconst 1) 1 96 := dnAt dc_X6_countGroups 49 rfl rfl
theorem d_X6_countGroups_96 : dn cX6_countGroups 96 (.isub) 1 97 := dnAt dc_X6_countGroups 50 rfl rfl
theorem d_X6_countGroups_97 : dn cX6_countGroups 97 (.goto 5) 3 100 := dnAt dc_X6_countGroups 51 rfl rfl
theorem d_X6_countGroups_100 : dn cX6_countGroups 100 (.iload 5) 2 102 := dnAt dc_X6_countGroups 52 rfl rfl
theorem d_X6_countGroups_102 : dn cX6_countGroups 102 (.istore 7) 2 104 := dnAt dc_X6_countGroups 53 rfl rfl
theorem d_X6_countGroups_104 : dn cX6_countGroups 104 (.aload_n 0) 1 105 := dnAt dc_X6_countGroups 54 rfl rfl
theorem d_X6_countGroups_105 : dn cX6_countGroups 105 (.getfield 47) 3 108 := dnAt dc_X6_countGroups 55 rfl rfl
theorem d_X6_countGroups_108 : dn cX6_countGroups 108 (.aload 4) 2 110 := dnAt dc_X6_countGroups 56 rfl rfl
theorem d_X6_countGroups_110 : dn cX6_countGroups 110 (.iload 7) 2 112 := dnAt dc_X6_countGroups 57 rfl rfl
theorem d_X6_countGroups_112 : dn cX6_countGroups 112 (.iload_n 2) 1 113 := dnAt dc_X6_countGroups 58 rfl rfl
theorem d_X6_countGroups_113 : dn cX6_countGroups 113 (.invokevirtual 102) 3 116 := dnAt dc_X6_countGroups 59 rfl rfl
theorem d_X6_countGroups_116 : dn cX6_countGroups 116 (.dup2) 1 117 := dnAt dc_X6_countGroups 60 rfl rfl
theorem d_X6_countGroups_117 : dn cX6_countGroups 117 (.iaload) 1 118 := dnAt dc_X6_countGroups 61 rfl rfl
theorem d_X6_countGroups_118 : dn cX6_countGroups 118 (.iconst 1) 1 119 := dnAt dc_X6_countGroups 62 rfl rfl
theorem d_X6_countGroups_119 : dn cX6_countGroups 119 (.iadd) 1 120 := dnAt dc_X6_countGroups 63 rfl rfl
theorem d_X6_countGroups_120 : dn cX6_countGroups 120 (.iastore) 1 121 := dnAt dc_X6_countGroups 64 rfl rfl
theorem d_X6_countGroups_121 : dn cX6_countGroups 121 (.iinc 6 1) 3 124 := dnAt dc_X6_countGroups 65 rfl rfl
theorem d_X6_countGroups_124 : dn cX6_countGroups 124 (.goto (-73)) 3 127 := dnAt dc_X6_countGroups 66 rfl rfl
theorem d_X6_countGroups_127 : dn cX6_countGroups 127 (.iinc 5 1) 3 130 := dnAt dc_X6_countGroups 67 rfl rfl
theorem d_X6_countGroups_130 : dn cX6_countGroups 130 (.goto (-92)) 3 133 := dnAt dc_X6_countGroups 68 rfl rfl
theorem d_X6_countGroups_133 : dn cX6_countGroups 133 (.return_) 1 134 := dnAt dc_X6_countGroups 69 rfl rfl
set_option maxHeartbeats 4000000 in
set_option maxRecDepth 100000 in
theorem k_countGroups {l : Launch} {G : eG} {ad : Nat → Nat → Nat} {h : hp} {g : mS} {r a : Nat} {L : Bool} (hm : co G ad g h) (I : mInv g) (J : rInv g) (hr : r < 8) (h1 : mI g 20 r ≠ -1) (ha : a < 3) : kC l G ad h yX6_countGroups cX6_countGroups 8 (Option.none : Option Jvm.ClassFile.FieldType) { frames := 1, cells := 0, slots := 0, locals := 22 } [.ref (ad 0 0), .ref (ad 20 r), .int (nI a), .int (bI L)] (fun v9 g9 _ => v9 = none ∧ g9 = cuS g r a L 360) := by
  refine kC.of hm (by decide) (Nat.le_of_ble_eq_true rfl) ?_
  intro x C A TY
  show VC G x ad h g 0 0 0 [(0, .ref (ad 0 0)), (1, .ref (ad 20 r)), (2, .int (nI a)), (3, .int (bI L))] []
  obtain ⟨he, hs⟩ := (J r hr).2 h1
  have hc := I.1 _ hs
  have hsd := sd_54 J hr h1
  refine c_iconst C d_X6_countGroups_0 (v := (nI 0)) rfl ?_
  refine c_istore C d_X6_countGroups_1 (lv' := [(4, .int (nI 0)), (0, .ref (ad 0 0)), (1, .ref (ad 20 r)), (2, .int (nI a)), (3, .int (bI L))]) (by decide) rfl ?_
  have loop_3 : ∀ (fuel : Nat) (k : Nat), (k ≤ 100) → (101 - k) < fuel → VC G x ad h (cuZ g k) 0 0 3 [(4, .int (nI k)), (0, .ref (ad 0 0)), (1, .ref (ad 20 r)), (2, .int (nI a)), (3, .int (bI L))] [] := by
    intro fuel
    induction fuel with
    | zero => intro k hk hf9; exact absurd hf9 (Nat.not_lt_zero _)
    | succ fuel ih_3 =>
      intro k hk hf9
      refine c_iload C d_X6_countGroups_3 0 rfl ?_
      refine c_bipush C d_X6_countGroups_5 (v := (nI 100)) rfl ?_
      refine cn_icmp_ge C d_X6_countGroups_7 (tgt := 24) rfl (by omega) (by omega) (fun c_7 => ?_) (fun c_7 => ?_)
      · skip
        obtain rfl : k = 100 := by omega
        refine c_aload_n C d_X6_countGroups_24 1 rfl ?_
        refine c_get C d_X6_countGroups_25 fd_RX6_11 (k := 0) (i' := 0) rfl rfl (v := .ref (ad 1 0)) rfl ?_
        refine c_aload_n C d_X6_countGroups_28 2 rfl ?_
        refine c_get C d_X6_countGroups_29 fd_RX6_188 (k := 20) (i' := r) (decide_eq_true (by omega)) rfl (v := .int (nI (mN (cuZ g 100) 54 r))) rfl ?_
        refine c_st (st' := [.int (nI (mN g 54 r)), .ref (ad 1 0)]) (by first | rfl | simp only [mN_uN, mB_uB, mK_uK, and_self, if_true]) ?_
        refine c_aSide C d_X6_countGroups_32 (s := mN g 54 r) (by omega) ?_
        refine c_astore C d_X6_countGroups_33 (lv' := [(4, .ref (ad 10 (mN g 54 r))), (0, .ref (ad 0 0)), (1, .ref (ad 20 r)), (2, .int (nI a)), (3, .int (bI L))]) (by decide) rfl ?_
        refine c_iconst C d_X6_countGroups_35 (v := (nI 0)) rfl ?_
        refine c_istore C d_X6_countGroups_36 (lv' := [(5, .int (nI 0)), (4, .ref (ad 10 (mN g 54 r))), (0, .ref (ad 0 0)), (1, .ref (ad 20 r)), (2, .int (nI a)), (3, .int (bI L))]) (by decide) rfl ?_
        have loop_38 : ∀ (fuel : Nat) (k : Nat), (k ≤ mN g 1 (mN g 54 r)) → (41 - k) < fuel → VC G x ad h (cuS g r a L (9 * k)) 0 0 38 [(5, .int (nI k)), (4, .ref (ad 10 (mN g 54 r))), (0, .ref (ad 0 0)), (1, .ref (ad 20 r)), (2, .int (nI a)), (3, .int (bI L))] [] := by
          intro fuel
          induction fuel with
          | zero => intro k hk2 hf9; exact absurd hf9 (Nat.not_lt_zero _)
          | succ fuel ih_38 =>
            intro k hk2 hf9
            refine c_iload C d_X6_countGroups_38 0 rfl ?_
            refine c_aload C d_X6_countGroups_40 1 rfl ?_
            refine c_get C d_X6_countGroups_42 fd_RX6_61 (k := 10) (i' := mN g 54 r) (decide_eq_true (by omega)) rfl (v := .int (nI (mN (cuS g r a L (9 * k)) 1 (mN g 54 r)))) rfl ?_
            refine c_st (st' := [.int (nI (mN g 1 (mN g 54 r))), .int (nI k)]) (by first | rfl | simp only [mN_uN, mB_uB, mK_uK, and_self, if_true]) ?_
            refine cn_icmp_ge C d_X6_countGroups_45 (tgt := 133) rfl (by omega) (by omega) (fun c_45 => ?_) (fun c_45 => ?_)
            · skip
              exact k_vret C A cfr_rf TY d_X6_countGroups_133 (Nat.le_of_ble_eq_true rfl) (Nat.le_of_ble_eq_true rfl) (fun h9 F9 => ⟨rfl, by unfold cuS cuF; rw [cv_lim2 I hr hs he (k := k) (by omega) (by omega)]⟩)
            · skip
              have hv := sz_b I hr k (by omega)
              refine c_iconst C d_X6_countGroups_48 (v := (nI 1)) rfl ?_
              refine c_istore C d_X6_countGroups_49 (lv' := [(6, .int (nI 1)), (5, .int (nI k)), (4, .ref (ad 10 (mN g 54 r))), (0, .ref (ad 0 0)), (1, .ref (ad 20 r)), (2, .int (nI a)), (3, .int (bI L))]) (by decide) rfl ?_
              have loop_51 : ∀ (fuel : Nat) (q : Nat), (1 ≤ q ∧ q ≤ 9) → (10 - q) < fuel → VC G x ad h (cuS g r a L (9 * k + q)) 0 0 51 [(6, .int (nI q)), (5, .int (nI k)), (4, .ref (ad 10 (mN g 54 r))), (0, .ref (ad 0 0)), (1, .ref (ad 20 r)), (2, .int (nI a)), (3, .int (bI L))] [] := by
                intro fuel
                induction fuel with
                | zero => intro q hq hf9; exact absurd hf9 (Nat.not_lt_zero _)
                | succ fuel ih_51 =>
                  intro q hq hf9
                  refine c_iload C d_X6_countGroups_51 0 rfl ?_
                  refine c_bipush C d_X6_countGroups_53 (v := (nI 8)) rfl ?_
                  refine cn_icmp_gt C d_X6_countGroups_55 (tgt := 127) rfl (by omega) (by omega) (fun c_55 => ?_) (fun c_55 => ?_)
                  · skip
                    refine cn_iinc C d_X6_countGroups_127 (lv' := [(5, .int (nI (k + 1))), (6, .int (nI q)), (4, .ref (ad 10 (mN g 54 r))), (0, .ref (ad 0 0)), (1, .ref (ad 20 r)), (2, .int (nI a)), (3, .int (bI L))]) 1 rfl (nI_inc _ rfl) (by decide) rfl ?_
                    refine c_goto C d_X6_countGroups_130 (tgt := 38) rfl ?_
                    refine c_lv (lv' := [(5, .int (nI (k + 1))), (4, .ref (ad 10 (mN g 54 r))), (0, .ref (ad 0 0)), (1, .ref (ad 20 r)), (2, .int (nI a)), (3, .int (bI L))]) [0, 2, 3, 4, 5, 6] rfl ?_
                    refine c_eq (g' := cuS g r a L (9 * (k + 1))) (by unfold cuS cuF; rw [show cvM g r a L (9 * k + q) = cvM g r a L (9 * (k + 1)) from by rw [show 9 * (k + 1) = 9 * k + q by omega]]) ?_
                    exact ih_38 (k + 1) (by omega) (by omega)
                  · skip
                    refine c_iload C d_X6_countGroups_58 1 rfl ?_
                    refine c_iload C d_X6_countGroups_60 0 rfl ?_
                    refine cn_iadd C d_X6_countGroups_62 ?_
                    refine c_aload C d_X6_countGroups_63 2 rfl ?_
                    refine c_get C d_X6_countGroups_65 fd_RX6_61 (k := 10) (i' := mN g 54 r) (decide_eq_true (by omega)) rfl (v := .int (nI (mN (cuS g r a L (9 * k + q)) 1 (mN g 54 r)))) rfl ?_
                    refine c_st (st' := [.int (nI (mN g 1 (mN g 54 r))), .int (nI (k + q))]) (by first | rfl | simp only [mN_uN, mB_uB, mK_uK, and_self, if_true]) ?_
                    refine cn_icmp_gt C d_X6_countGroups_68 (tgt := 127) rfl (by omega) (by omega) (fun c_68 => ?_) (fun c_68 => ?_)
                    · skip
                      refine cn_iinc C d_X6_countGroups_127 (lv' := [(5, .int (nI (k + 1))), (6, .int (nI q)), (4, .ref (ad 10 (mN g 54 r))), (0, .ref (ad 0 0)), (1, .ref (ad 20 r)), (2, .int (nI a)), (3, .int (bI L))]) 1 rfl (nI_inc _ rfl) (by decide) rfl ?_
                      refine c_goto C d_X6_countGroups_130 (tgt := 38) rfl ?_
                      refine c_lv (lv' := [(5, .int (nI (k + 1))), (4, .ref (ad 10 (mN g 54 r))), (0, .ref (ad 0 0)), (1, .ref (ad 20 r)), (2, .int (nI a)), (3, .int (bI L))]) [0, 2, 3, 4, 5, 6] rfl ?_
                      refine c_eq (g' := cuS g r a L (9 * (k + 1))) (by unfold cuS cuF; rw [show cvM g r a L (9 * k + q) = cvM g r a L (9 * (k + 1)) from cv_lim I hr hs he (by omega) (by omega) (by omega)]) ?_
                      exact ih_38 (k + 1) (by omega) (by omega)
                    · skip
                      refine c_aload_n C d_X6_countGroups_71 4 rfl ?_
                      refine c_get C d_X6_countGroups_72 fd_RX6_178 (k := 20) (i' := r) (decide_eq_true (by omega)) rfl (v := .ref (ad 21 r)) rfl ?_
                      refine c_iload C d_X6_countGroups_75 1 rfl ?_
                      refine c_ald C d_X6_countGroups_77 (k := 21) (i := r) (decide_eq_true (by omega)) rfl (by show _ < 40; omega) ?_
                      refine c_st (st' := [.int (nI (mN g 21 (40 * r + k)))]) (rfl) ?_
                      refine c_iload C d_X6_countGroups_78 0 rfl ?_
                      refine cn_ishr C d_X6_countGroups_80 (by omega) (by omega) ?_
                      refine c_iconst C d_X6_countGroups_81 (v := (nI 1)) rfl ?_
                      refine cn_iand C d_X6_countGroups_82 ?_
                      refine c_st (st' := [.int (nI (mN g 21 (40 * r + k) / 2 ^ q % 2))]) (by rw [and1]) ?_
                      have join_121 : VC G x ad h (cuS g r a L (9 * k + (q + 1))) 0 0 121 [(6, .int (nI q)), (5, .int (nI k)), (4, .ref (ad 10 (mN g 54 r))), (0, .ref (ad 0 0)), (1, .ref (ad 20 r)), (2, .int (nI a)), (3, .int (bI L))] [] := by
                        refine cn_iinc C d_X6_countGroups_121 (lv' := [(6, .int (nI (q + 1))), (5, .int (nI k)), (4, .ref (ad 10 (mN g 54 r))), (0, .ref (ad 0 0)), (1, .ref (ad 20 r)), (2, .int (nI a)), (3, .int (bI L))]) 0 rfl (nI_inc _ rfl) (by decide) rfl ?_
                        refine c_goto C d_X6_countGroups_124 (tgt := 51) rfl ?_
                        exact ih_51 (q + 1) (by omega) (by omega)
                      refine cn_if_eq C d_X6_countGroups_83 (tgt := 121) rfl (by omega) (fun c_83 => ?_) (fun c_83 => ?_)
                      · skip
                        refine c_eq (g' := cuS g r a L (9 * k + (q + 1))) (by unfold cuS cuF; rw [← Nat.add_assoc, cv_F (by rw [hasB_at (by omega)]; exact fun z => by have := of_decide_eq_true z; omega)]) ?_
                        exact join_121  
                      · skip
                        have hbb : hasB g r (9 * k + q) = true := by rw [hasB_at (by omega)]; exact decide_eq_true (by omega)
                        have hvv := vl_lt I hr h1 ha L (9 * k + q) (by omega) hbb
                        have hvl : mVal g (mN g 54 r) (if L = true then k + q - 1 else k) a = vlM g r a L (9 * k + q) := by unfold vlM plM; rw [hsd, show (9 * k + q) / 9 = k by omega, show (9 * k + q) % 9 = q by omega]; congr 1; split <;> omega
                        have htk : (if L = true then k + q - 1 else k) < 40 := by split <;> omega
                        have join_102 : VC G x ad h (cuS g r a L (9 * k + q)) 0 0 102 [(6, .int (nI q)), (5, .int (nI k)), (4, .ref (ad 10 (mN g 54 r))), (0, .ref (ad 0 0)), (1, .ref (ad 20 r)), (2, .int (nI a)), (3, .int (bI L))] [.int (nI (if L = true then k + q - 1 else k))] := by
                          refine c_istore C d_X6_countGroups_102 (lv' := [(7, .int (nI (if L = true then k + q - 1 else k))), (6, .int (nI q)), (5, .int (nI k)), (4, .ref (ad 10 (mN g 54 r))), (0, .ref (ad 0 0)), (1, .ref (ad 20 r)), (2, .int (nI a)), (3, .int (bI L))]) (by decide) rfl ?_
                          refine c_aload_n C d_X6_countGroups_104 4 rfl ?_
                          refine c_get C d_X6_countGroups_105 fd_RX6_47 (k := 0) (i' := 0) rfl rfl (v := .ref (ad 6 0)) rfl ?_
                          refine c_aload C d_X6_countGroups_108 3 rfl ?_
                          refine c_iload C d_X6_countGroups_110 0 rfl ?_
                          refine c_iload_n C d_X6_countGroups_112 6 rfl ?_
                          refine k_callV C d_X6_countGroups_113 ok_RX6_102 (k := 10) (i' := mN g 54 r) (fun l h hm hf => k_valueAt hm (by omega) (htk) (by omega)) (decide_eq_true (by omega)) rfl rfl rfl (rest := [.ref (ad 6 0)]) rfl rfl (Nat.le_of_ble_eq_true rfl) ⟨⟨by decide, by decide⟩, Nat.le_of_ble_eq_true rfl, Nat.le_of_ble_eq_true rfl⟩ (fun v9 g9 hq1 e9 F1 => ?_)
                          obtain ⟨rfl, z1⟩ := e9
                          refine c_eq z1 ?_
                          refine c_base F1 ?_
                          show VC G x ad h (cuS g r a L (9 * k + q)) 0 0 116 [(7, .int (nI (if L = true then k + q - 1 else k))), (6, .int (nI q)), (5, .int (nI k)), (4, .ref (ad 10 (mN g 54 r))), (0, .ref (ad 0 0)), (1, .ref (ad 20 r)), (2, .int (nI a)), (3, .int (bI L))] [.int (nI (mVal g (mN g 54 r) (if L = true then k + q - 1 else k) a)), .ref (ad 6 0)]
                          refine c_dup2 C d_X6_countGroups_116 rfl rfl ?_
                          refine c_ald C d_X6_countGroups_117 (k := 6) (i := 0) rfl rfl (by show _ < 100; rw [hvl]; exact hvv) ?_
                          refine c_st (st' := [.int (nI (cvM g r a L (9 * k + q) (vlM g r a L (9 * k + q)))), .int (nI (mVal g (mN g 54 r) (if L = true then k + q - 1 else k) a)), .ref (ad 6 0)]) (by rw [hvl]; unfold cuS; rw [mN_sN, if_pos rfl]; unfold cuF; rw [if_pos (by omega), show 100 * 0 + vlM g r a L (9 * k + q) = vlM g r a L (9 * k + q) by omega]) ?_
                          refine c_iconst C d_X6_countGroups_118 (v := (nI 1)) rfl ?_
                          refine cn_iadd C d_X6_countGroups_119 ?_
                          refine c_ast C d_X6_countGroups_120 (k := 6) (i := 0) (v := (cvM g r a L (9 * k + q) (vlM g r a L (9 * k + q))) + 1) rfl rfl (by show _ < 100; rw [hvl]; exact hvv) ?_
                          refine c_lv (lv' := [(6, .int (nI q)), (5, .int (nI k)), (4, .ref (ad 10 (mN g 54 r))), (0, .ref (ad 0 0)), (1, .ref (ad 20 r)), (2, .int (nI a)), (3, .int (bI L))]) [1, 2, 3, 4, 5, 6, 7] rfl ?_
                          refine c_eq (g' := cuS g r a L (9 * k + (q + 1))) (by rw [hvl, ← Nat.add_assoc]; exact cu_step hbb hvv) ?_
                          exact join_121  
                        refine c_iload_n C d_X6_countGroups_86 6 rfl ?_
                        refine cb_if_eq C d_X6_countGroups_87 (tgt := 100) rfl (fun c_87 => ?_) (fun c_87 => ?_)
                        · skip
                          refine c_iload C d_X6_countGroups_100 1 rfl ?_
                          refine c_st (st' := [.int (nI (if L = true then k + q - 1 else k))]) (by rw [if_neg (by rw [c_87]; decide)]) ?_
                          exact join_102  
                        · skip
                          refine c_iload C d_X6_countGroups_90 1 rfl ?_
                          refine c_iload C d_X6_countGroups_92 0 rfl ?_
                          refine cn_iadd C d_X6_countGroups_94 ?_
                          refine c_iconst C d_X6_countGroups_95 (v := (nI 1)) rfl ?_
                          refine cn_isub C d_X6_countGroups_96 (by omega) ?_
                          refine c_goto C d_X6_countGroups_97 (tgt := 102) rfl ?_
                          refine c_st (st' := [.int (nI (if L = true then k + q - 1 else k))]) (by rw [if_pos c_87]) ?_
                          exact join_102  
              refine c_eq (g' := cuS g r a L (9 * k + 1)) (by unfold cuS cuF; rw [cv_F (by have h9 := hasB_at (g := g) (r := r) (k := k) (q := 0) (by decide); rw [Nat.add_zero, Nat.pow_zero, Nat.div_one, hv.2] at h9; rw [h9]; decide)]) ?_
              exact loop_51 _ 1 (by omega) (Nat.lt_succ_self _)
        refine c_eq (g' := cuS g r a L (9 * 0)) (by unfold cuZ cuS; congr 1) ?_
        exact loop_38 _ 0 (by omega) (Nat.lt_succ_self _)
      · skip
        refine c_aload_n C d_X6_countGroups_10 1 rfl ?_
        refine c_get C d_X6_countGroups_11 fd_RX6_47 (k := 0) (i' := 0) rfl rfl (v := .ref (ad 6 0)) rfl ?_
        refine c_iload C d_X6_countGroups_14 0 rfl ?_
        refine c_iconst C d_X6_countGroups_16 (v := (nI 0)) rfl ?_
        refine c_ast C d_X6_countGroups_17 (k := 6) (i := 0) (v := 0) rfl rfl (by show _ < 100; omega) ?_
        refine cn_iinc C d_X6_countGroups_18 (lv' := [(4, .int (nI (k + 1))), (0, .ref (ad 0 0)), (1, .ref (ad 20 r)), (2, .int (nI a)), (3, .int (bI L))]) 0 rfl (nI_inc _ rfl) (by decide) rfl ?_
        refine c_goto C d_X6_countGroups_21 (tgt := 3) rfl ?_
        refine c_eq (g' := cuZ g (k + 1)) (by unfold cuZ; exact sN_step (fun z => by by_cases c : z = k; rw [if_pos (by omega), if_pos (by omega)]; rw [if_neg (by omega)]; by_cases d : z < k; rw [if_pos d, if_pos (by omega)]; rw [if_neg d, if_neg (by omega)])) ?_
        exact ih_3 (k + 1) (by omega) (by omega)
  refine c_eq (g' := cuZ g 0) (by unfold cuZ; exact sN_init (fun z => by rw [if_neg (Nat.not_lt_zero z)])) ?_
  exact loop_3 _ 0 (by omega) (Nat.lt_succ_self _)
def dl_X6_groups : List (Nat × Instr × Nat) := [(0, .aload_n 0, 1), (1, .iload_n 1, 1), (2, .invokevirtual 184, 3), (5, .astore 4, 2), (7, .iload_n 2, 1), (8, .iconst 0, 1), (9, .iconst 2, 1), (10, .invokestatic 57, 3), (13, .aload_n 0, 1), (14, .aload 4, 2), (16, .iload_n 2, 1), (17, .iload_n 3, 1), (18, .invokevirtual 217, 3), (21, .iconst 0, 1), (22, .istore 5, 2), (24, .iconst 0, 1), (25, .istore 6, 2), (27, .iload 6, 2), (29, .bipush 100, 2), (31, .if_icmp .ge 22, 3), (34, .aload_n 0, 1), (35, .getfield 47, 3), (38, .iload 6, 2), (40, .iaload, 1), (41, .ifCond .le 6, 3), (44, .iinc 5 1, 3), (47, .iinc 6 1, 3), (50, .goto (-23), 3), (53, .iload 5, 2), (55, .ireturn, 1)]
theorem dc_X6_groups : dnL cX6_groups dl_X6_groups = true := by decide +kernel
theorem d_X6_groups_0 : dn cX6_groups 0 (.aload_n 0) 1 1 := dnAt dc_X6_groups 0 rfl rfl
theorem d_X6_groups_1 : dn cX6_groups 1 (.iload_n 1) 1 2 := dnAt dc_X6_groups 1 rfl rfl
theorem d_X6_groups_2 : dn cX6_groups 2 (.invokevirtual 184) 3 5 := dnAt dc_X6_groups 2 rfl rfl
theorem d_X6_groups_5 : dn cX6_groups 5 (.astore 4) 2 7 := dnAt dc_X6_groups 3 rfl rfl
theorem d_X6_groups_7 : dn cX6_groups 7 (.iload_n 2) 1 8 := dnAt dc_X6_groups 4 rfl rfl
theorem d_X6_groups_8 : dn cX6_groups 8 (.iconst 0) 1 9 := dnAt dc_X6_groups 5 rfl rfl
theorem d_X6_groups_9 : dn cX6_groups 9 (.iconst 2) 1 10 := dnAt dc_X6_groups 6 rfl rfl
theorem d_X6_groups_10 : dn cX6_groups 10 (.invokestatic 57) 3 13 := dnAt dc_X6_groups 7 rfl rfl
theorem d_X6_groups_13 : dn cX6_groups 13 (.aload_n 0) 1 14 := dnAt dc_X6_groups 8 rfl rfl
theorem d_X6_groups_14 : dn cX6_groups 14 (.aload 4) 2 16 := dnAt dc_X6_groups 9 rfl rfl
theorem d_X6_groups_16 : dn cX6_groups 16 (.iload_n 2) 1 17 := dnAt dc_X6_groups 10 rfl rfl
theorem d_X6_groups_17 : dn cX6_groups 17 (.iload_n 3) 1 18 := dnAt dc_X6_groups 11 rfl rfl
theorem d_X6_groups_18 : dn cX6_groups 18 (.invokevirtual 217) 3 21 := dnAt dc_X6_groups 12 rfl rfl
theorem d_X6_groups_21 : dn cX6_groups 21 (.iconst 0) 1 22 := dnAt dc_X6_groups 13 rfl rfl
theorem d_X6_groups_22 : dn cX6_groups 22 (.istore 5) 2 24 := dnAt dc_X6_groups 14 rfl rfl
theorem d_X6_groups_24 : dn cX6_groups 24 (.iconst 0) 1 25 := dnAt dc_X6_groups 15 rfl rfl
theorem d_X6_groups_25 : dn cX6_groups 25 (.istore 6) 2 27 := dnAt dc_X6_groups 16 rfl rfl
theorem d_X6_groups_27 : dn cX6_groups 27 (.iload 6) 2 29 := dnAt dc_X6_groups 17 rfl rfl
theorem d_X6_groups_29 : dn cX6_groups 29 (.bipush 100) 2 31 := dnAt dc_X6_groups 18 rfl rfl
theorem d_X6_groups_31 : dn cX6_groups 31 (.if_icmp .ge 22) 3 34 := dnAt dc_X6_groups 19 rfl rfl
theorem d_X6_groups_34 : dn cX6_groups 34 (.aload_n 0) 1 35 := dnAt dc_X6_groups 20 rfl rfl
theorem d_X6_groups_35 : dn cX6_groups 35 (.getfield 47) 3 38 := dnAt dc_X6_groups 21 rfl rfl
theorem d_X6_groups_38 : dn cX6_groups 38 (.iload 6) 2 40 := dnAt dc_X6_groups 22 rfl rfl
theorem d_X6_groups_40 : dn cX6_groups 40 (.iaload) 1 41 := dnAt dc_X6_groups 23 rfl rfl
theorem d_X6_groups_41 : dn cX6_groups 41 (.ifCond .le 6) 3 44 := dnAt dc_X6_groups 24 rfl rfl
theorem d_X6_groups_44 : dn cX6_groups 44 (.iinc 5 1) 3 47 := dnAt dc_X6_groups 25 rfl rfl
theorem d_X6_groups_47 : dn cX6_groups 47 (.iinc 6 1) 3 50 := dnAt dc_X6_groups 26 rfl rfl
theorem d_X6_groups_50 : dn cX6_groups 50 (.goto (-23)) 3 53 := dnAt dc_X6_groups 27 rfl rfl
theorem d_X6_groups_53 : dn cX6_groups 53 (.iload 5) 2 55 := dnAt dc_X6_groups 28 rfl rfl
theorem d_X6_groups_55 : dn cX6_groups 55 (.ireturn) 1 56 := dnAt dc_X6_groups 29 rfl rfl
set_option maxHeartbeats 4000000 in
set_option maxRecDepth 100000 in
theorem k_groups {l : Launch} {G : eG} {ad : Nat → Nat → Nat} {h : hp} {g : mS} {v a : Int32} {L : Bool} (hlf : l.stackTraces = false) (hm : co G ad g h) (I : mInv g) (J : rInv g) : kX l G ad h yX6_groups cX6_groups 7 (Option.some Jvm.ClassFile.FieldType.int) { frames := 7, cells := 2, slots := 12, locals := 112 } [.ref (ad 0 0), .int v, .int a, .int (bI L)] (fun v9 g9 _ => v9 = some (.int (nI (rGr g v a L))) ∧ g9 = cuS g (tn v) (tn a) L 360 ∧ cGr g v a = 0) (fun E9 g9 => (E9 = "java/lang/IndexOutOfBoundsException" ∧ cGr g v a = 1 ∨ E9 = "java/lang/IllegalArgumentException" ∧ cGr g v a = 2) ∧ g9 = g) := by
  refine kX.of hlf hm (by decide) (Nat.le_of_ble_eq_true rfl) ?_
  intro x C A TY X
  show VC G x ad h g 0 0 0 [(0, .ref (ad 0 0)), (1, .int v), (2, .int a), (3, .int (bI L))] []
  refine c_aload_n C d_X6_groups_0 0 rfl ?_
  refine c_iload_n C d_X6_groups_1 1 rfl ?_
  refine k_callVX C X cfr_rf d_X6_groups_2 ok_RX6_184 (k := 0) (i' := 0) (fun l h hl hm hf => k_knownResult hl hm J v) rfl rfl rfl rfl (rest := []) rfl rfl (Nat.le_of_ble_eq_true rfl) ⟨⟨by decide, by decide⟩, Nat.le_of_ble_eq_true rfl, Nat.le_of_ble_eq_true rfl⟩ (fun _ _ e => ⟨Or.inl ⟨e.1, by rw [cGr, if_neg (by rw [e.2.1]; decide)]⟩, e.2.2⟩) (fun v9 g9 hq1 e9 F1 => ?_)
  obtain ⟨rfl, z1, i1⟩ := e9
  refine c_eq z1 ?_
  obtain ⟨j1, s1, t1⟩ := mIsR_of i1
  refine c_base F1 ?_
  show VC G x ad h g 1 6 5 [(0, .ref (ad 0 0)), (1, .int v), (2, .int a), (3, .int (bI L))] [.ref (ad 20 (tn v))]
  refine c_astore C d_X6_groups_5 (lv' := [(4, .ref (ad 20 (tn v))), (0, .ref (ad 0 0)), (1, .int v), (2, .int a), (3, .int (bI L))]) (by decide) rfl ?_
  refine c_iload_n C d_X6_groups_7 3 rfl ?_
  refine c_iconst C d_X6_groups_8 (v := (nI 0)) rfl ?_
  refine c_iconst C d_X6_groups_9 (v := (nI 2)) rfl ?_
  refine k_callSX C X cfr_rf d_X6_groups_10 ok_RX6_57 (fun l h hl hm hf => k_demandRange hl hm a ((nI 0)) ((nI 2))) (rest := []) rfl rfl (Nat.le_of_ble_eq_true rfl) ⟨⟨by decide, by decide⟩, Nat.le_of_ble_eq_true rfl, Nat.le_of_ble_eq_true rfl⟩ (fun _ _ e => ⟨Or.inr (⟨e.1, by rw [cGr, if_pos i1, if_neg (by rw [show inR a 0 2 = false from e.2.1]; decide)]⟩), e.2.2⟩) (fun v9 g9 hq2 e9 F2 => ?_)
  obtain ⟨rfl, z2, i2⟩ := e9
  refine c_eq z2 ?_
  refine c_base F2 ?_
  show VC G x ad h g 2 12 13 [(4, .ref (ad 20 (tn v))), (0, .ref (ad 0 0)), (1, .int v), (2, .int a), (3, .int (bI L))] []
  replace i2 : inR a 0 2 = true := i2
  obtain ⟨j2, -, s2⟩ := inR_of i2 (by decide) (by decide)
  have z0 : cGr g v a = 0 := by rw [cGr, if_pos i1, if_pos i2]
  refine c_lve (lv' := [(4, .ref (ad 20 (tn v))), (0, .ref (ad 0 0)), (1, .int (nI (tn v))), (2, .int (nI (tn a))), (3, .int (bI L))]) (by rw [← j1, ← j2]) ?_
  refine c_aload_n C d_X6_groups_13 1 rfl ?_
  refine c_aload C d_X6_groups_14 0 rfl ?_
  refine c_iload_n C d_X6_groups_16 3 rfl ?_
  refine c_iload_n C d_X6_groups_17 4 rfl ?_
  refine k_callV C d_X6_groups_18 ok_RX6_217 (k := 0) (i' := 0) (fun l h hm hf => k_countGroups hm I J (by omega) (t1) (by omega)) rfl rfl rfl rfl (rest := []) rfl rfl (Nat.le_of_ble_eq_true rfl) ⟨⟨by decide, by decide⟩, Nat.le_of_ble_eq_true rfl, Nat.le_of_ble_eq_true rfl⟩ (fun v9 g9 hq3 e9 F3 => ?_)
  obtain ⟨rfl, z3⟩ := e9
  refine c_eq z3 ?_
  refine c_base F3 ?_
  show VC G x ad h (cuS g (tn v) (tn a) L 360) 2 12 21 [(4, .ref (ad 20 (tn v))), (0, .ref (ad 0 0)), (1, .int (nI (tn v))), (2, .int (nI (tn a))), (3, .int (bI L))] []
  refine c_iconst C d_X6_groups_21 (v := (nI 0)) rfl ?_
  refine c_istore C d_X6_groups_22 (lv' := [(5, .int (nI 0)), (4, .ref (ad 20 (tn v))), (0, .ref (ad 0 0)), (1, .int (nI (tn v))), (2, .int (nI (tn a))), (3, .int (bI L))]) (by decide) rfl ?_
  refine c_iconst C d_X6_groups_24 (v := (nI 0)) rfl ?_
  refine c_istore C d_X6_groups_25 (lv' := [(6, .int (nI 0)), (5, .int (nI 0)), (4, .ref (ad 20 (tn v))), (0, .ref (ad 0 0)), (1, .int (nI (tn v))), (2, .int (nI (tn a))), (3, .int (bI L))]) (by decide) rfl ?_
  have loop_27 : ∀ (fuel : Nat) (k : Nat), (k ≤ 100) → (101 - k) < fuel → VC G x ad h (cuS g (tn v) (tn a) L 360) 2 12 27 [(6, .int (nI k)), (5, .int (nI (sumTo (fun w => if 0 < cvM g (tn v) (tn a) L 360 w then 1 else 0) k))), (4, .ref (ad 20 (tn v))), (0, .ref (ad 0 0)), (1, .int (nI (tn v))), (2, .int (nI (tn a))), (3, .int (bI L))] [] := by
    intro fuel
    induction fuel with
    | zero => intro k hk hf9; exact absurd hf9 (Nat.not_lt_zero _)
    | succ fuel ih_27 =>
      intro k hk hf9
      refine c_iload C d_X6_groups_27 0 rfl ?_
      refine c_bipush C d_X6_groups_29 (v := (nI 100)) rfl ?_
      refine cn_icmp_ge C d_X6_groups_31 (tgt := 53) rfl (by omega) (by omega) (fun c_31 => ?_) (fun c_31 => ?_)
      · skip
        obtain rfl : k = 100 := by omega
        refine c_iload C d_X6_groups_53 1 rfl ?_
        refine c_st (st' := [.int (nI (rGr g v a L))]) (by rw [rGr, if_pos z0, nd_cnt (vl_lt I s1 t1 (by omega) L) 360 (Nat.le_refl _)]) ?_
        exact k_iret C A cfr_rf TY d_X6_groups_55 rfl (Nat.le_of_ble_eq_true rfl) (Nat.le_of_ble_eq_true rfl) (fun h9 F9 => ⟨rfl, rfl, z0⟩)
      · skip
        refine c_aload_n C d_X6_groups_34 3 rfl ?_
        refine c_get C d_X6_groups_35 fd_RX6_47 (k := 0) (i' := 0) rfl rfl (v := .ref (ad 6 0)) rfl ?_
        refine c_iload C d_X6_groups_38 0 rfl ?_
        refine c_ald C d_X6_groups_40 (k := 6) (i := 0) rfl rfl (by show _ < 100; omega) ?_
        refine c_st (st' := [.int (nI (cvM g (tn v) (tn a) L 360 k))]) (by unfold cuS; rw [mN_sN, if_pos rfl]; unfold cuF; rw [if_pos (by omega), show 100 * 0 + k = k by omega]) ?_
        have join_47 : VC G x ad h (cuS g (tn v) (tn a) L 360) 2 12 47 [(6, .int (nI k)), (5, .int (nI (sumTo (fun w => if 0 < cvM g (tn v) (tn a) L 360 w then 1 else 0) (k + 1)))), (4, .ref (ad 20 (tn v))), (0, .ref (ad 0 0)), (1, .int (nI (tn v))), (2, .int (nI (tn a))), (3, .int (bI L))] [] := by
          refine cn_iinc C d_X6_groups_47 (lv' := [(6, .int (nI (k + 1))), (5, .int (nI (sumTo (fun w => if 0 < cvM g (tn v) (tn a) L 360 w then 1 else 0) (k + 1)))), (4, .ref (ad 20 (tn v))), (0, .ref (ad 0 0)), (1, .int (nI (tn v))), (2, .int (nI (tn a))), (3, .int (bI L))]) 0 rfl (nI_inc _ rfl) (by decide) rfl ?_
          refine c_goto C d_X6_groups_50 (tgt := 27) rfl ?_
          exact ih_27 (k + 1) (by omega) (by omega)
        refine cn_if_le C d_X6_groups_41 (tgt := 47) rfl (by have := cvM_le g (tn v) (tn a) L 360 k; omega) (fun c_41 => ?_) (fun c_41 => ?_)
        · skip
          refine c_lve (lv' := [(6, .int (nI k)), (5, .int (nI (sumTo (fun w => if 0 < cvM g (tn v) (tn a) L 360 w then 1 else 0) (k + 1)))), (4, .ref (ad 20 (tn v))), (0, .ref (ad 0 0)), (1, .int (nI (tn v))), (2, .int (nI (tn a))), (3, .int (bI L))]) (by rw [sumTo, if_neg (by omega)]; rfl) ?_
          exact join_47  
        · skip
          refine cn_iinc C d_X6_groups_44 (lv' := [(5, .int (nI (sumTo (fun w => if 0 < cvM g (tn v) (tn a) L 360 w then 1 else 0) k + 1))), (6, .int (nI k)), (4, .ref (ad 20 (tn v))), (0, .ref (ad 0 0)), (1, .int (nI (tn v))), (2, .int (nI (tn a))), (3, .int (bI L))]) 1 rfl (nI_inc _ rfl) (by decide) rfl ?_
          refine c_lv (lv' := [(6, .int (nI k)), (5, .int (nI (sumTo (fun w => if 0 < cvM g (tn v) (tn a) L 360 w then 1 else 0) k + 1))), (4, .ref (ad 20 (tn v))), (0, .ref (ad 0 0)), (1, .int (nI (tn v))), (2, .int (nI (tn a))), (3, .int (bI L))]) [1, 0, 2, 3, 4, 5, 6] rfl ?_
          refine c_lve (lv' := [(6, .int (nI k)), (5, .int (nI (sumTo (fun w => if 0 < cvM g (tn v) (tn a) L 360 w then 1 else 0) (k + 1)))), (4, .ref (ad 20 (tn v))), (0, .ref (ad 0 0)), (1, .int (nI (tn v))), (2, .int (nI (tn a))), (3, .int (bI L))]) (by rw [sumTo, if_pos (by omega)]) ?_
          exact join_47  
  refine c_lve (lv' := [(6, .int (nI 0)), (5, .int (nI (sumTo (fun w => if 0 < cvM g (tn v) (tn a) L 360 w then 1 else 0) 0))), (4, .ref (ad 20 (tn v))), (0, .ref (ad 0 0)), (1, .int (nI (tn v))), (2, .int (nI (tn a))), (3, .int (bI L))]) (rfl) ?_
  exact loop_27 _ 0 (by omega) (Nat.lt_succ_self _)
