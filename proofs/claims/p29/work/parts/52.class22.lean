theorem tw_608 : (Jvm.Cond.methodLink "Corpusline" (221 : Nat) ({ cls := "Corpusline", name := "groupsAheadOf", desc := "(I)I" } : Jvm.MethodName)) ∈ TB := tb_of 608 (by decide +kernel) rfl
theorem tw_610 : (Jvm.Cond.instanceMethod ({ cls := "Corpusline", name := "groupsAheadOf", desc := "(I)I" } : Jvm.MethodName)) ∈ TB := tb_of 610 (by decide +kernel) rfl
theorem tw_611 : (Jvm.Cond.code ({ cls := "Corpusline", name := "groupsAheadOf", desc := "(I)I" } : Jvm.MethodName) prog_1_method_42_code (4 : Nat) (Option.some Jvm.ClassFile.FieldType.int)) ∈ TB := tb_of 611 (by decide +kernel) rfl
theorem ts_17 : Cond.selects "Corpusline" ({ cls := "Corpusline", name := "groupsAheadOf", desc := "(I)I" } : MethodName) ({ cls := "Corpusline", name := "groupsAheadOf", desc := "(I)I" } : MethodName) ∈ TB := tb_sel 17 (by decide +kernel) rfl
theorem ok_RX6_221 : okV RX6 221 yX6_groupsAheadOf cX6_groupsAheadOf 4 (Option.some Jvm.ClassFile.FieldType.int) 1 := ⟨tw_608, tw_610, ts_17, tw_1, tw_611, ⟨by decide, by decide, by decide +kernel⟩⟩
theorem sumTo_mono {f g : Nat → Nat} : ∀ {k}, (∀ j, j < k → f j ≤ g j) → sumTo f k ≤ sumTo g k
  | 0, _ => Nat.le_refl _
  | k + 1, h => by rw [sumTo, sumTo]; exact Nat.add_le_add (sumTo_mono (fun j hj => h j (by omega))) (h k (by omega))
theorem sumTo_lt {f g : Nat → Nat} {j0 : Nat} : ∀ {k}, (∀ j, j < k → f j ≤ g j) → j0 < k → f j0 < g j0 → sumTo f k < sumTo g k
  | 0, _, h, _ => absurd h (Nat.not_lt_zero _)
  | k + 1, h, h1, h2 => by
    rw [sumTo, sumTo]
    by_cases e : j0 = k
    · subst e
      exact Nat.add_lt_add_of_le_of_lt (sumTo_mono (fun j hj => h j (by omega))) h2
    · exact Nat.add_lt_add_of_lt_of_le (sumTo_lt (fun j hj => h j (by omega)) (by omega) h2) (h k (by omega))
/-- no more pigeons than holes -/
theorem pig : ∀ (m n : Nat) (f : Nat → Nat), (∀ i, i < n → f i < m) → (∀ i j, i < n → j < n → f i = f j → i = j) → n ≤ m
  | 0, n, f, h, _ => by
    rcases Nat.eq_zero_or_pos n with z | z
    · omega
    · exact absurd (h 0 z) (Nat.not_lt_zero _)
  | m + 1, n, f, h, hi => by
    by_cases e : ∃ i, i < n ∧ f i = m
    · obtain ⟨i0, h0, e0⟩ := e
      have hs : ∀ i, (if i < i0 then i else i + 1) ≠ i0 := fun i => by split <;> omega
      have := pig m (n - 1) (fun i => f (if i < i0 then i else i + 1)) (fun i hlt => by
        have h1 := h (if i < i0 then i else i + 1) (by split <;> omega)
        have h2 : f (if i < i0 then i else i + 1) ≠ m := fun z => hs i (hi _ _ (by split <;> omega) h0 (z.trans e0.symm))
        show f (if i < i0 then i else i + 1) < m
        omega) (fun i j hlt hlj q => by
        have := hi _ _ (by split <;> omega) (by split <;> omega) q
        split at this <;> split at this <;> omega)
      omega
    · exact Nat.le_succ_of_le (pig m n f (fun i hlt => by
        have h1 := h i hlt
        have h2 : f i ≠ m := fun z => e ⟨i, hlt, z⟩
        omega) hi)
theorem inj_surj {n : Nat} {f : Nat → Nat} (h : ∀ i, i < n → f i < n) (hi : ∀ i j, i < n → j < n → f i = f j → i = j) {y : Nat} (hy : y < n) : ∃ x, x < n ∧ f x = y := by
  refine Classical.byContradiction fun q => ?_
  have hq : ∀ i, i < n → f i ≠ y := fun i hlt z => q ⟨i, hlt, z⟩
  have := pig (n - 1) n (fun i => if f i < y then f i else f i - 1) (fun i hlt => by
    have h1 := h i hlt; have h2 := hq i hlt
    show (if f i < y then f i else f i - 1) < n - 1
    split <;> omega) (fun i j hlt hlj z => by
    have h1 := hq i hlt; have h2 := hq j hlj
    refine hi i j hlt hlj ?_
    replace z : (if f i < y then f i else f i - 1) = (if f j < y then f j else f j - 1) := z
    split at z <;> split at z <;> omega)
  omega
theorem ah_lt {c : Nat → Nat} {v w : Nat} (hw : w < 100) (h : c v < c w ∨ c w = c v ∧ w < v) : ahM c w 100 < ahM c v 100 := by
  unfold ahM
  refine sumTo_lt (j0 := w) (fun j _ => ?_) hw ?_
  · by_cases d : c w < c j ∨ c j = c w ∧ j < w
    · rw [if_pos d, if_pos (by omega)]; exact Nat.le_refl _
    · rw [if_neg d]; exact Nat.zero_le _
  · rw [if_neg (by omega), if_pos h]; exact Nat.one_pos
theorem ah_inj {c : Nat → Nat} {v w : Nat} (hv : v < 100) (hw : w < 100) (h : ahM c v 100 = ahM c w 100) : v = w := by
  refine Classical.byContradiction fun q => ?_
  have h1 := mt (ah_lt (c := c) hw (v := v)) (by omega)
  have h2 := mt (ah_lt (c := c) hv (v := w)) (by omega)
  omega
theorem ah_100 {c : Nat → Nat} {v : Nat} (hv : v < 100) : ahM c v 100 < 100 := by
  have : ahM c v 100 < sumTo (fun _ => 1) 100 := by
    unfold ahM
    refine sumTo_lt (j0 := v) (fun j _ => ?_) hv ?_
    · split <;> omega
    · rw [if_neg (by omega)]; exact Nat.one_pos
  exact Nat.lt_of_lt_of_le this (sumTo_le (c := 1) (fun _ _ => Nat.le_refl _))
theorem ah_nd {c : Nat → Nat} {v : Nat} (hv : v < 100) (h : 0 < c v) : ahM c v 100 < sumTo (fun v => if 0 < c v then 1 else 0) 100 := by
  unfold ahM
  refine sumTo_lt (j0 := v) (fun j _ => ?_) hv ?_
  · by_cases d : c v < c j ∨ c j = c v ∧ j < v
    · rw [if_pos d, if_pos (by omega)]; exact Nat.le_refl _
    · rw [if_neg d]; exact Nat.zero_le _
  · rw [if_neg (by omega), if_pos h]; exact Nat.one_pos
theorem ah_0 {c : Nat → Nat} {v : Nat} (h : c v = 0) : sumTo (fun v => if 0 < c v then 1 else 0) 100 ≤ ahM c v 100 := by
  unfold ahM
  refine sumTo_mono (fun j _ => ?_)
  by_cases d : 0 < c j
  · rw [if_pos d, if_pos (by omega)]; exact Nat.le_refl _
  · rw [if_neg d]; exact Nat.zero_le _
theorem ah_some {c : Nat → Nat} {g : Nat} (h : g < sumTo (fun v => if 0 < c v then 1 else 0) 100) : ∃ v, v < 100 ∧ 0 < c v ∧ ahM c v 100 = g := by
  have h1 : sumTo (fun v => if 0 < c v then 1 else 0) 100 ≤ 100 * 1 := sumTo_le (fun j _ => by split <;> omega)
  obtain ⟨v, hv, e⟩ := inj_surj (f := fun v => ahM c v 100) (fun i hi => ah_100 hi) (fun i j a b q => ah_inj a b q) (y := g) (by omega)
  refine ⟨v, hv, ?_, e⟩
  rcases Nat.eq_zero_or_pos (c v) with z | z
  · have := ah_0 z
    replace e : ahM c v 100 = g := e
    omega
  · exact z
theorem fdG_of {c : Nat → Nat} {v : Nat} (hv : v < 100) : ∀ j, v + 1 + j ≤ 100 → fdG c (ahM c v 100) (v + 1 + j) = v
  | 0, _ => by rw [Nat.add_zero, fdG, if_pos rfl]
  | j + 1, h => by
    rw [← Nat.add_assoc, fdG, if_neg (fun z => by have := ah_inj (by omega) hv z; omega)]
    exact fdG_of hv j (by omega)
theorem ah_congr {c d : Nat → Nat} {v : Nat} (h : ∀ z, z < 100 → c z = d z) (hv : v < 100) : ahM c v 100 = ahM d v 100 := by
  unfold ahM
  exact sumTo_congr (fun j hj => by rw [h j hj, h v hv])
theorem cGA_T {g : mS} (I : mInv g) {v a : Int32} {L : Bool} {k : Nat} (h : mIsR g v = true) (h8 : tn v < 8) (h1 : mI g 20 (tn v) ≠ -1) (ha : inR a 0 2 = true) (ha3 : tn a < 3) (hk : k < 100) (hc : 0 < cvM g (tn v) (tn a) L 360 k) : cGA g v a L (nI (ahM (cvM g (tn v) (tn a) L 360) k 100)) = 0 ∧ rGA g v a L (nI (ahM (cvM g (tn v) (tn a) L 360) k 100)) = cvM g (tn v) (tn a) L 360 k * 1000 + k := by
  have e1 := ah_nd hk hc
  rw [← nd_cnt (vl_lt I h8 h1 ha3 L) 360 (Nat.le_refl _)] at e1
  have e2 := ndM_le g (tn v) (tn a) L 360
  have c0 : cGA g v a L (nI (ahM (cvM g (tn v) (tn a) L 360) k 100)) = 0 := by
    rw [cGA, if_pos h, if_pos ha, if_pos (inI_Tm (nI_pos (by omega)) ((nI_ltI (by omega) (by omega)).mpr e1) (by omega))]
  refine ⟨c0, ?_⟩
  rw [rGA, if_pos c0, tn_nI (by omega)]
  have := fdG_of (c := cvM g (tn v) (tn a) L 360) hk (99 - k) (by omega)
  rw [show k + 1 + (99 - k) = 100 by omega] at this
  rw [this]; omega
theorem cGA_1 {g : mS} (I : mInv g) {v a z : Int32} {L : Bool} (h : mIsR g v = true) (h8 : tn v < 8) (h1 : mI g 20 (tn v) ≠ -1) (ha : inR a 0 2 = true) (ha3 : tn a < 3) (hn : ∀ k, k < 100 → ¬ (0 < cvM g (tn v) (tn a) L 360 k ∧ nI (ahM (cvM g (tn v) (tn a) L 360) k 100) = z)) : cGA g v a L z = 1 := by
  have e2 := ndM_le g (tn v) (tn a) L 360
  rw [cGA, if_pos h, if_pos ha]
  refine if_neg fun q => ?_
  obtain ⟨e3, e4⟩ := inI_of (by omega) q
  rw [nd_cnt (vl_lt I h8 h1 ha3 L) 360 (Nat.le_refl _)] at e4
  obtain ⟨k, hk, hc, e⟩ := ah_some e4
  exact hn k hk ⟨hc, by rw [e]; exact e3.symm⟩
theorem sN_self (g : mS) (k : Nat) : g = sN g k (fun z => mN g k z) := sN_init (fun _ => rfl)
theorem sN_ex {g g9 : mS} (e : g9 = g) : ∃ f, g9 = sN g 52 f := ⟨_, e.trans (sN_self g 52)⟩
def dl_X6_groupAt : List (Nat × Instr × Nat) := [(0, .aload_n 0, 1), (1, .iload_n 1, 1), (2, .invokevirtual 184, 3), (5, .astore 5, 2), (7, .iload_n 2, 1), (8, .iconst 0, 1), (9, .iconst 2, 1), (10, .invokestatic 57, 3), (13, .aload_n 0, 1), (14, .aload 5, 2), (16, .iload_n 2, 1), (17, .iload_n 3, 1), (18, .invokevirtual 217, 3), (21, .iconst 0, 1), (22, .istore 6, 2), (24, .iload 6, 2), (26, .bipush 100, 2), (28, .if_icmp .ge 45, 3), (31, .aload_n 0, 1), (32, .getfield 47, 3), (35, .iload 6, 2), (37, .iaload, 1), (38, .ifCond .le 29, 3), (41, .aload_n 0, 1), (42, .iload 6, 2), (44, .invokevirtual 221, 3), (47, .iload 4, 2), (49, .if_icmp .ne 18, 3), (52, .aload_n 0, 1), (53, .getfield 47, 3), (56, .iload 6, 2), (58, .iaload, 1), (59, .sipush 1000, 3), (62, .imul, 1), (63, .iload 6, 2), (65, .iadd, 1), (66, .ireturn, 1), (67, .iinc 6 1, 3), (70, .goto (-46), 3), (73, .new 88, 3), (76, .dup, 1), (77, .ldc 224, 2), (79, .invokespecial 92, 3), (82, .athrow, 1)]
theorem dc_X6_groupAt : dnL cX6_groupAt dl_X6_groupAt = true := by decide +kernel
theorem d_X6_groupAt_0 : dn cX6_groupAt 0 (.aload_n 0) 1 1 := dnAt dc_X6_groupAt 0 rfl rfl
theorem d_X6_groupAt_1 : dn cX6_groupAt 1 (.iload_n 1) 1 2 := dnAt dc_X6_groupAt 1 rfl rfl
theorem d_X6_groupAt_2 : dn cX6_groupAt 2 (.invokevirtual 184) 3 5 := dnAt dc_X6_groupAt 2 rfl rfl
theorem d_X6_groupAt_5 : dn cX6_groupAt 5 (.astore 5) 2 7 := dnAt dc_X6_groupAt 3 rfl rfl
theorem d_X6_groupAt_7 : dn cX6_groupAt 7 (.iload_n 2) 1 8 := dnAt dc_X6_groupAt 4 rfl rfl
theorem d_X6_groupAt_8 : dn cX6_groupAt 8 (.iconst 0) 1 9 := dnAt dc_X6_groupAt 5 rfl rfl
theorem d_X6_groupAt_9 : dn cX6_groupAt 9 (.iconst 2) 1 10 := dnAt dc_X6_groupAt 6 rfl rfl
theorem d_X6_groupAt_10 : dn cX6_groupAt 10 (.invokestatic 57) 3 13 := dnAt dc_X6_groupAt 7 rfl rfl
theorem d_X6_groupAt_13 : dn cX6_groupAt 13 (.aload_n 0) 1 14 := dnAt dc_X6_groupAt 8 rfl rfl
theorem d_X6_groupAt_14 : dn cX6_groupAt 14 (.aload 5) 2 16 := dnAt dc_X6_groupAt 9 rfl rfl
theorem d_X6_groupAt_16 : dn cX6_groupAt 16 (.iload_n 2) 1 17 := dnAt dc_X6_groupAt 10 rfl rfl
theorem d_X6_groupAt_17 : dn cX6_groupAt 17 (.iload_n 3) 1 18 := dnAt dc_X6_groupAt 11 rfl rfl
theorem d_X6_groupAt_18 : dn cX6_groupAt 18 (.invokevirtual 217) 3 21 := dnAt dc_X6_groupAt 12 rfl rfl
theorem d_X6_groupAt_21 : dn cX6_groupAt 21 (.iconst 0) 1 22 := dnAt dc_X6_groupAt 13 rfl rfl
theorem d_X6_groupAt_22 : dn cX6_groupAt 22 (.istore 6) 2 24 := dnAt dc_X6_groupAt 14 rfl rfl
theorem d_X6_groupAt_24 : dn cX6_groupAt 24 (.iload 6) 2 26 := dnAt dc_X6_groupAt 15 rfl rfl
theorem d_X6_groupAt_26 : dn cX6_groupAt 26 (.bipush 100) 2 28 := dnAt dc_X6_groupAt 16 rfl rfl
theorem d_X6_groupAt_28 : dn cX6_groupAt 28 (.if_icmp .ge 45) 3 31 := dnAt dc_X6_groupAt 17 rfl rfl
theorem d_X6_groupAt_31 : dn cX6_groupAt 31 (.aload_n 0) 1 32 := dnAt dc_X6_groupAt 18 rfl rfl
theorem d_X6_groupAt_32 : dn cX6_groupAt 32 (.getfield 47) 3 35 := dnAt dc_X6_groupAt 19 rfl rfl
theorem d_X6_groupAt_35 : dn cX6_groupAt 35 (.iload 6) 2 37 := dnAt dc_X6_groupAt 20 rfl rfl
theorem d_X6_groupAt_37 : dn cX6_groupAt 37 (.iaload) 1 38 := dnAt dc_X6_groupAt 21 rfl rfl
theorem d_X6_groupAt_38 : dn cX6_groupAt 38 (.ifCond .le 29) 3 41 := dnAt dc_X6_groupAt 22 rfl rfl
theorem d_X6_groupAt_41 : dn cX6_groupAt 41 (.aload_n 0) 1 42 := dnAt dc_X6_groupAt 23 rfl rfl
theorem d_X6_groupAt_42 : dn cX6_groupAt 42 (.iload 6) 2 44 := dnAt dc_X6_groupAt 24 rfl rfl
theorem d_X6_groupAt_44 : dn cX6_groupAt 44 (.invokevirtual 221) 3 47 := dnAt dc_X6_groupAt 25 rfl rfl
theorem d_X6_groupAt_47 : dn cX6_groupAt 47 (.iload 4) 2 49 := dnAt dc_X6_groupAt 26 rfl rfl
theorem d_X6_groupAt_49 : dn cX6_groupAt 49 (.if_icmp .ne 18) 3 52 := dnAt dc_X6_groupAt 27 rfl rfl
theorem d_X6_groupAt_52 : dn cX6_groupAt 52 (.aload_n 0) 1 53 := dnAt dc_X6_groupAt 28 rfl rfl
theorem d_X6_groupAt_53 : dn cX6_groupAt 53 (.getfield 47) 3 56 := dnAt dc_X6_groupAt 29 rfl rfl
theorem d_X6_groupAt_56 : dn cX6_groupAt 56 (.iload 6) 2 58 := dnAt dc_X6_groupAt 30 rfl rfl
theorem d_X6_groupAt_58 : dn cX6_groupAt 58 (.iaload) 1 59 := dnAt dc_X6_groupAt 31 rfl rfl
theorem d_X6_groupAt_59 : dn cX6_groupAt 59 (.sipush 1000) 3 62 := dnAt dc_X6_groupAt 32 rfl rfl
theorem d_X6_groupAt_62 : dn cX6_groupAt 62 (.imul) 1 63 := dnAt dc_X6_groupAt 33 rfl rfl
theorem d_X6_groupAt_63 : dn cX6_groupAt 63 (.iload 6) 2 65 := dnAt dc_X6_groupAt 34 rfl rfl
theorem d_X6_groupAt_65 : dn cX6_groupAt 65 (.iadd) 1 66 := dnAt dc_X6_groupAt 35 rfl rfl
theorem d_X6_groupAt_66 : dn cX6_groupAt 66 (.ireturn) 1 67 := dnAt dc_X6_groupAt 36 rfl rfl
theorem d_X6_groupAt_67 : dn cX6_groupAt 67 (.iinc 6 1) 3 70 := dnAt dc_X6_groupAt 37 rfl rfl
theorem d_X6_groupAt_70 : dn cX6_groupAt 70 (.goto (-46)) 3 73 := dnAt dc_X6_groupAt 38 rfl rfl
theorem d_X6_groupAt_73 : dn cX6_groupAt 73 (.new 88) 3 76 := dnAt dc_X6_groupAt 39 rfl rfl
theorem d_X6_groupAt_76 : dn cX6_groupAt 76 (.dup) 1 77 := dnAt dc_X6_groupAt 40 rfl rfl
theorem d_X6_groupAt_77 : dn cX6_groupAt 77 (.ldc 224) 2 79 := dnAt dc_X6_groupAt 41 rfl rfl
theorem d_X6_groupAt_79 : dn cX6_groupAt 79 (.invokespecial 92) 3 82 := dnAt dc_X6_groupAt 42 rfl rfl
theorem d_X6_groupAt_82 : dn cX6_groupAt 82 (.athrow) 1 83 := dnAt dc_X6_groupAt 43 rfl rfl
set_option maxHeartbeats 4000000 in
set_option maxRecDepth 100000 in
theorem k_groupAt {l : Launch} {G : eG} {ad : Nat → Nat → Nat} {h : hp} {g : mS} {v a : Int32} {L : Bool} {z : Int32} (hlf : l.stackTraces = false) (hm : co G ad g h) (I : mInv g) (J : rInv g) : kX l G ad h yX6_groupAt cX6_groupAt 7 (Option.some Jvm.ClassFile.FieldType.int) { frames := 7, cells := 3, slots := 18, locals := 112 } [.ref (ad 0 0), .int v, .int a, .int (bI L), .int z] (fun v9 g9 _ => v9 = some (.int (nI (rGA g v a L z))) ∧ g9 = cuS g (tn v) (tn a) L 360 ∧ cGA g v a L z = 0) (fun E9 g9 => ((E9 = "java/lang/IndexOutOfBoundsException" ∧ cGA g v a L z = 1 ∨ E9 = "java/lang/IllegalArgumentException" ∧ cGA g v a L z = 2)) ∧ ∃ f, g9 = sN g 52 f) := by
  refine kX.of hlf hm (by decide) (Nat.le_of_ble_eq_true rfl) ?_
  intro x C A TY X
  show VC G x ad h g 0 0 0 [(0, .ref (ad 0 0)), (1, .int v), (2, .int a), (3, .int (bI L)), (4, .int z)] []
  refine c_aload_n C d_X6_groupAt_0 0 rfl ?_
  refine c_iload_n C d_X6_groupAt_1 1 rfl ?_
  refine k_callVX C X cfr_rf d_X6_groupAt_2 ok_RX6_184 (k := 0) (i' := 0) (fun l h hl hm hf => k_knownResult hl hm J v) rfl rfl rfl rfl (rest := []) rfl rfl (Nat.le_of_ble_eq_true rfl) ⟨⟨by decide, by decide⟩, Nat.le_of_ble_eq_true rfl, Nat.le_of_ble_eq_true rfl⟩ (fun _ _ e => ⟨Or.inl ⟨e.1, by rw [cGA, if_neg (by rw [e.2.1]; decide)]⟩, sN_ex e.2.2⟩) (fun v9 g9 hq1 e9 F1 => ?_)
  obtain ⟨rfl, z1, i1⟩ := e9
  refine c_eq z1 ?_
  obtain ⟨j1, s1, t1⟩ := mIsR_of i1
  refine c_base F1 ?_
  show VC G x ad h g 1 6 5 [(0, .ref (ad 0 0)), (1, .int v), (2, .int a), (3, .int (bI L)), (4, .int z)] [.ref (ad 20 (tn v))]
  refine c_astore C d_X6_groupAt_5 (lv' := [(5, .ref (ad 20 (tn v))), (0, .ref (ad 0 0)), (1, .int v), (2, .int a), (3, .int (bI L)), (4, .int z)]) (by decide) rfl ?_
  refine c_iload_n C d_X6_groupAt_7 3 rfl ?_
  refine c_iconst C d_X6_groupAt_8 (v := (nI 0)) rfl ?_
  refine c_iconst C d_X6_groupAt_9 (v := (nI 2)) rfl ?_
  refine k_callSX C X cfr_rf d_X6_groupAt_10 ok_RX6_57 (fun l h hl hm hf => k_demandRange hl hm a ((nI 0)) ((nI 2))) (rest := []) rfl rfl (Nat.le_of_ble_eq_true rfl) ⟨⟨by decide, by decide⟩, Nat.le_of_ble_eq_true rfl, Nat.le_of_ble_eq_true rfl⟩ (fun _ _ e => ⟨Or.inr ⟨e.1, by rw [cGA, if_pos i1, if_neg (by rw [show inR a 0 2 = false from e.2.1]; decide)]⟩, sN_ex e.2.2⟩) (fun v9 g9 hq2 e9 F2 => ?_)
  obtain ⟨rfl, z2, i2⟩ := e9
  refine c_eq z2 ?_
  refine c_base F2 ?_
  show VC G x ad h g 2 12 13 [(5, .ref (ad 20 (tn v))), (0, .ref (ad 0 0)), (1, .int v), (2, .int a), (3, .int (bI L)), (4, .int z)] []
  replace i2 : inR a 0 2 = true := i2
  obtain ⟨j2, -, s2⟩ := inR_of i2 (by decide) (by decide)
  refine c_lve (lv' := [(5, .ref (ad 20 (tn v))), (0, .ref (ad 0 0)), (1, .int (nI (tn v))), (2, .int (nI (tn a))), (3, .int (bI L)), (4, .int z)]) (by rw [← j1, ← j2]) ?_
  refine c_aload_n C d_X6_groupAt_13 1 rfl ?_
  refine c_aload C d_X6_groupAt_14 0 rfl ?_
  refine c_iload_n C d_X6_groupAt_16 3 rfl ?_
  refine c_iload_n C d_X6_groupAt_17 4 rfl ?_
  refine k_callV C d_X6_groupAt_18 ok_RX6_217 (k := 0) (i' := 0) (fun l h hm hf => k_countGroups hm I J (by omega) (t1) (by omega)) rfl rfl rfl rfl (rest := []) rfl rfl (Nat.le_of_ble_eq_true rfl) ⟨⟨by decide, by decide⟩, Nat.le_of_ble_eq_true rfl, Nat.le_of_ble_eq_true rfl⟩ (fun v9 g9 hq3 e9 F3 => ?_)
  obtain ⟨rfl, z3⟩ := e9
  refine c_eq z3 ?_
  refine c_base F3 ?_
  show VC G x ad h (cuS g (tn v) (tn a) L 360) 2 12 21 [(5, .ref (ad 20 (tn v))), (0, .ref (ad 0 0)), (1, .int (nI (tn v))), (2, .int (nI (tn a))), (3, .int (bI L)), (4, .int z)] []
  refine c_iconst C d_X6_groupAt_21 (v := (nI 0)) rfl ?_
  refine c_istore C d_X6_groupAt_22 (lv' := [(6, .int (nI 0)), (5, .ref (ad 20 (tn v))), (0, .ref (ad 0 0)), (1, .int (nI (tn v))), (2, .int (nI (tn a))), (3, .int (bI L)), (4, .int z)]) (by decide) rfl ?_
  have loop_24 : ∀ (fuel : Nat) (k : Nat), (k ≤ 100) → (∀ j, j < k → ¬ (0 < cvM g (tn v) (tn a) L 360 j ∧ nI (ahM (cvM g (tn v) (tn a) L 360) j 100) = z)) → (101 - k) < fuel → VC G x ad h (cuS g (tn v) (tn a) L 360) 2 12 24 [(6, .int (nI k)), (5, .ref (ad 20 (tn v))), (0, .ref (ad 0 0)), (1, .int (nI (tn v))), (2, .int (nI (tn a))), (3, .int (bI L)), (4, .int z)] [] := by
    intro fuel
    induction fuel with
    | zero => intro k hk hn hf9; exact absurd hf9 (Nat.not_lt_zero _)
    | succ fuel ih_24 =>
      intro k hk hn hf9
      refine c_iload C d_X6_groupAt_24 0 rfl ?_
      refine c_bipush C d_X6_groupAt_26 (v := (nI 100)) rfl ?_
      refine cn_icmp_ge C d_X6_groupAt_28 (tgt := 73) rfl (by omega) (by omega) (fun c_28 => ?_) (fun c_28 => ?_)
      · skip
        exact k_throw C X cfr_rf d_X6_groupAt_73 d_X6_groupAt_76 d_X6_groupAt_77 d_X6_groupAt_79 d_X6_groupAt_82 th_88 (text := "no such group") (by decide) ⟨by decide, Nat.le_of_ble_eq_true rfl, Nat.le_of_ble_eq_true rfl, Nat.le_of_ble_eq_true rfl⟩ (⟨Or.inl ⟨rfl, cGA_1 I i1 s1 t1 i2 (by omega) (by rw [show k = 100 by omega] at hn; exact hn)⟩, _, rfl⟩)
      · skip
        refine c_aload_n C d_X6_groupAt_31 2 rfl ?_
        refine c_get C d_X6_groupAt_32 fd_RX6_47 (k := 0) (i' := 0) rfl rfl (v := .ref (ad 6 0)) rfl ?_
        refine c_iload C d_X6_groupAt_35 0 rfl ?_
        refine c_ald C d_X6_groupAt_37 (k := 6) (i := 0) rfl rfl (by show _ < 100; omega) ?_
        refine c_st (st' := [.int (nI (cvM g (tn v) (tn a) L 360 k))]) (by unfold cuS; rw [mN_sN, if_pos rfl]; unfold cuF; rw [if_pos (by omega), show 100 * 0 + k = k by omega]) ?_
        refine cn_if_le C d_X6_groupAt_38 (tgt := 67) rfl (by have := cvM_le g (tn v) (tn a) L 360 k; omega) (fun c_38 => ?_) (fun c_38 => ?_)
        · skip
          refine cn_iinc C d_X6_groupAt_67 (lv' := [(6, .int (nI (k + 1))), (5, .ref (ad 20 (tn v))), (0, .ref (ad 0 0)), (1, .int (nI (tn v))), (2, .int (nI (tn a))), (3, .int (bI L)), (4, .int z)]) 0 rfl (nI_inc _ rfl) (by decide) rfl ?_
          refine c_goto C d_X6_groupAt_70 (tgt := 24) rfl ?_
          exact ih_24 (k + 1) (by omega) (fun j hj q => by rcases Nat.lt_succ_iff_lt_or_eq.mp hj with y | y; exact hn j y q; subst y; omega) (by omega)
        · skip
          refine c_aload_n C d_X6_groupAt_41 2 rfl ?_
          refine c_iload C d_X6_groupAt_42 0 rfl ?_
          refine k_callV C d_X6_groupAt_44 ok_RX6_221 (k := 0) (i' := 0) (fun l h hm hf => k_groupsAheadOf hm (by omega) (fun z9 hz => by rw [show mN (cuS g (tn v) (tn a) L 360) 52 (100 * 0 + z9) = cvM g (tn v) (tn a) L 360 z9 from (by unfold cuS; rw [mN_sN, if_pos rfl]; unfold cuF; rw [if_pos (by omega), show 100 * 0 + z9 = z9 by omega])]; have := cvM_le g (tn v) (tn a) L 360 z9; omega)) rfl rfl rfl rfl (rest := []) rfl rfl (Nat.le_of_ble_eq_true rfl) ⟨⟨by decide, by decide⟩, Nat.le_of_ble_eq_true rfl, Nat.le_of_ble_eq_true rfl⟩ (fun v9 g9 hq4 e9 F4 => ?_)
          obtain ⟨rfl, z4⟩ := e9
          refine c_eq z4 ?_
          refine c_base F4 ?_
          show VC G x ad h (cuS g (tn v) (tn a) L 360) 2 12 47 [(6, .int (nI k)), (5, .ref (ad 20 (tn v))), (0, .ref (ad 0 0)), (1, .int (nI (tn v))), (2, .int (nI (tn a))), (3, .int (bI L)), (4, .int z)] [.int (nI (ahM (fun z => mN (cuS g (tn v) (tn a) L 360) 52 (100 * 0 + z)) k 100))]
          refine c_st (st' := [.int (nI (ahM (cvM g (tn v) (tn a) L 360) k 100))]) (by rw [ah_congr (d := cvM g (tn v) (tn a) L 360) (fun z9 hz => (by unfold cuS; rw [mN_sN, if_pos rfl]; unfold cuF; rw [if_pos (by omega), show 100 * 0 + z9 = z9 by omega])) (by omega)]) ?_
          refine c_iload C d_X6_groupAt_47 6 rfl ?_
          refine c_icmp_ne C d_X6_groupAt_49 (tgt := 67) rfl (fun c_49 => ?_) (fun c_49 => ?_)
          · skip
            refine cn_iinc C d_X6_groupAt_67 (lv' := [(6, .int (nI (k + 1))), (5, .ref (ad 20 (tn v))), (0, .ref (ad 0 0)), (1, .int (nI (tn v))), (2, .int (nI (tn a))), (3, .int (bI L)), (4, .int z)]) 0 rfl (nI_inc _ rfl) (by decide) rfl ?_
            refine c_goto C d_X6_groupAt_70 (tgt := 24) rfl ?_
            exact ih_24 (k + 1) (by omega) (fun j hj q => by rcases Nat.lt_succ_iff_lt_or_eq.mp hj with y | y; exact hn j y q; subst y; exact c_49 q.2) (by omega)
          · skip
            obtain ⟨y1, y2⟩ := cGA_T I i1 s1 t1 i2 (by omega) (k := k) (by omega) (L := L) c_38
            have c49 : nI (ahM (cvM g (tn v) (tn a) L 360) k 100) = z := by first | exact c_49 | exact Classical.not_not.mp c_49
            rw [c49] at y1 y2
            refine c_aload_n C d_X6_groupAt_52 2 rfl ?_
            refine c_get C d_X6_groupAt_53 fd_RX6_47 (k := 0) (i' := 0) rfl rfl (v := .ref (ad 6 0)) rfl ?_
            refine c_iload C d_X6_groupAt_56 0 rfl ?_
            refine c_ald C d_X6_groupAt_58 (k := 6) (i := 0) rfl rfl (by show _ < 100; omega) ?_
            refine c_st (st' := [.int (nI (cvM g (tn v) (tn a) L 360 k))]) (by unfold cuS; rw [mN_sN, if_pos rfl]; unfold cuF; rw [if_pos (by omega), show 100 * 0 + k = k by omega]) ?_
            refine c_sipush C d_X6_groupAt_59 (v := (nI 1000)) rfl ?_
            refine cn_imul C d_X6_groupAt_62 ?_
            refine c_iload C d_X6_groupAt_63 0 rfl ?_
            refine cn_iadd C d_X6_groupAt_65 ?_
            refine c_st (st' := [.int (nI (rGA g v a L z))]) (by rw [y2]) ?_
            exact k_iret C A cfr_rf TY d_X6_groupAt_66 rfl (Nat.le_of_ble_eq_true rfl) (Nat.le_of_ble_eq_true rfl) (fun h9 F9 => ⟨rfl, rfl, y1⟩)
  exact loop_24 _ 0 (by omega) (fun j hj => absurd hj (Nat.not_lt_zero _)) (Nat.lt_succ_self _)
