theorem hasB_at {g : mS} {r k q : Nat} (hq : q < 9) : hasB g r (9 * k + q) = decide (mN g 21 (40 * r + k) / 2 ^ q % 2 = 1) := by
  unfold hasB
  rw [show (9 * k + q) / 9 = k by omega, show (9 * k + q) % 9 = q by omega]
theorem cnt_T {g : mS} {r k : Nat} (h : hasB g r k = true) : cntM g r (k + 1) = cntM g r k + 1 := by
  unfold cntM; rw [sumTo, h]; rfl
theorem cnt_F {g : mS} {r k : Nat} (h : hasB g r k = false) : cntM g r (k + 1) = cntM g r k := by
  unfold cntM; rw [sumTo, h]; rfl
theorem cnt_mono {g : mS} {r : Nat} {a : Nat} : ∀ j, cntM g r a ≤ cntM g r (a + j)
  | 0 => Nat.le_refl _
  | j + 1 => Nat.le_trans (cnt_mono j) (by rw [← Nat.add_assoc]; unfold cntM; rw [sumTo]; omega)
theorem cnt_9 {g : mS} {r k : Nat} (h : mN g 21 (40 * r + k) % 2 = 0) : cntM g r (9 * k + 1) = cntM g r (9 * k) := cnt_F (by
  have := hasB_at (g := g) (r := r) (k := k) (q := 0) (by decide)
  rw [Nat.add_zero] at this
  rw [this, Nat.pow_zero, Nat.div_one, h]; rfl)
theorem cnt_8 {g : mS} {r k : Nat} (h : mN g 21 (40 * r + k) % 2 = 0) : ∀ q, q ≤ 8 → cntM g r (9 * k + 1 + q) = cntM g r (9 * k) + sumTo (fun z => mN g 21 (40 * r + k) / 2 ^ (z + 1) % 2) q
  | 0, _ => by
    rw [sumTo, Nat.add_zero]; exact cnt_9 h
  | q + 1, hq => by
    have e := hasB_at (g := g) (r := r) (k := k) (q := q + 1) (by omega)
    have i := cnt_8 h q (by omega)
    rw [sumTo]
    rcases Nat.mod_two_eq_zero_or_one (mN g 21 (40 * r + k) / 2 ^ (q + 1)) with z | z
    · rw [z] at e
      rw [show 9 * k + 1 + (q + 1) = 9 * k + (q + 1) + 1 by omega, cnt_F e, show 9 * k + (q + 1) = 9 * k + 1 + q by omega, i, z]; rfl
    · rw [z] at e
      rw [show 9 * k + 1 + (q + 1) = 9 * k + (q + 1) + 1 by omega, cnt_T e, show 9 * k + (q + 1) = 9 * k + 1 + q by omega, i, z]; rfl
theorem cnt_sz {g : mS} {r : Nat} (h : ∀ k, k < 40 → mN g 21 (40 * r + k) % 2 = 0) : ∀ k, k ≤ 40 → cntM g r (9 * k) = sumTo (fun k => bits8 (mN g 21 (40 * r + k))) k
  | 0, _ => rfl
  | k + 1, hk => by
    rw [show 9 * (k + 1) = 9 * k + 1 + 8 by omega, cnt_8 (h k (by omega)) 8 (Nat.le_refl _), cnt_sz h k (by omega), sumTo]; rfl
theorem mSize_cnt {g : mS} (I : mInv g) {r : Nat} (hr : r < 8) : mSize g r = cntM g r 360 := (cnt_sz (fun k hk => (sz_b I hr k hk).2) 40 (Nat.le_refl _)).symm
theorem fdM_of {g : mS} {r j M : Nat} (h : hasB g r j = true) (e : cntM g r j = M) : ∀ z, fdM g r M (j + 1 + z) = 100 * (j / 9) + j % 9
  | 0 => by rw [Nat.add_zero, fdM, if_pos ⟨h, e⟩]
  | z + 1 => by
    have h1 := cnt_mono (g := g) (r := r) (a := j + 1) z
    rw [cnt_T h] at h1
    rw [← Nat.add_assoc, fdM, if_neg (by omega)]
    exact fdM_of h e z
theorem cMatch_1 {g : mS} {v m : Int32} (h : mIsR g v = true) (h2 : m < 0 ∨ ¬ m < nI (mSize g (tn v))) : cMatch g v m = 1 := by
  have := mSize_le g (tn v)
  rw [cMatch, inI_Fm h2 (by omega), Bool.and_false, if_neg Bool.false_ne_true]
theorem cMatch_T {g : mS} {v : Int32} {M : Nat} (h : mIsR g v = true) (hM : M < 1000) (h2 : M < mSize g (tn v)) : cMatch g v (nI M) = 0 := by
  have := mSize_le g (tn v)
  rw [cMatch, h, inI_Tm (nI_pos (by omega)) ((nI_ltI (by omega) (by omega)).mpr h2) (by omega)]; rfl
theorem rM_of {g : mS} (I : mInv g) {v : Int32} {M k q : Nat} (h : mIsR g v = true) (hr : tn v < 8) (hk : k < 40) (hq : q < 9) (hb : mN g 21 (40 * tn v + k) / 2 ^ q % 2 = 1) (e : cntM g (tn v) (9 * k + q) = M) : cMatch g v (nI M) = 0 ∧ rMatch g v (nI M) = k * 100 + q := by
  have hB : hasB g (tn v) (9 * k + q) = true := by rw [hasB_at hq]; exact decide_eq_true hb
  have hc := cntM_le g (tn v) (9 * k + q)
  have h1 := cnt_mono (g := g) (r := tn v) (a := 9 * k + q + 1) (360 - (9 * k + q + 1))
  rw [cnt_T hB, show 9 * k + q + 1 + (360 - (9 * k + q + 1)) = 360 by omega, ← mSize_cnt I hr] at h1
  have c0 := cMatch_T h (M := M) (by omega) (by omega)
  refine ⟨c0, ?_⟩
  rw [rMatch, if_pos c0]
  have := fdM_of hB e (360 - (9 * k + q + 1))
  rw [show 9 * k + q + 1 + (360 - (9 * k + q + 1)) = 360 by omega] at this
  rw [tn_nI (by omega), this]; omega
def dl_X6_match : List (Nat × Instr × Nat) := [(0, .aload_n 0, 1), (1, .iload_n 1, 1), (2, .invokevirtual 184, 3), (5, .astore_n 3, 1), (6, .iload_n 2, 1), (7, .istore 4, 2), (9, .iconst 0, 1), (10, .istore 5, 2), (12, .iload 5, 2), (14, .bipush 40, 2), (16, .if_icmp .ge 65, 3), (19, .iload 4, 2), (21, .ifCond .lt 60, 3), (24, .iconst 1, 1), (25, .istore 6, 2), (27, .iload 6, 2), (29, .bipush 8, 2), (31, .if_icmp .gt 44, 3), (34, .aload_n 3, 1), (35, .getfield 178, 3), (38, .iload 5, 2), (40, .iaload, 1), (41, .iload 6, 2), (43, .ishr, 1), (44, .iconst 1, 1), (45, .iand, 1), (46, .ifCond .ne 6, 3), (49, .goto 20, 3), (52, .iload 4, 2), (54, .ifCond .ne 12, 3), (57, .iload 5, 2), (59, .bipush 100, 2), (61, .imul, 1), (62, .iload 6, 2), (64, .iadd, 1), (65, .ireturn, 1), (66, .iinc 4 (-1), 3), (69, .iinc 6 1, 3), (72, .goto (-45), 3), (75, .iinc 5 1, 3), (78, .goto (-66), 3), (81, .new 88, 3), (84, .dup, 1), (85, .ldc 215, 2), (87, .invokespecial 92, 3), (90, .athrow, 1)]
theorem dc_X6_match : dnL cX6_match dl_X6_match = true := by decide +kernel
theorem d_X6_match_0 : dn cX6_match 0 (.aload_n 0) 1 1 := dnAt dc_X6_match 0 rfl rfl
theorem d_X6_match_1 : dn cX6_match 1 (.iload_n 1) 1 2 := dnAt dc_X6_match 1 rfl rfl
theorem d_X6_match_2 : dn cX6_match 2 (.invokevirtual 184) 3 5 := dnAt dc_X6_match 2 rfl rfl
theorem d_X6_match_5 : dn cX6_match 5 (.astore_n 3) 1 6 := dnAt dc_X6_match 3 rfl rfl
theorem d_X6_match_6 : dn cX6_match 6 (.iload_n 2) 1 7 := dnAt dc_X6_match 4 rfl rfl
theorem d_X6_match_7 : dn cX6_match 7 (.istore 4) 2 9 := dnAt dc_X6_match 5 rfl rfl
theorem d_X6_match_9 : dn cX6_match 9 (.iconst 0) 1 10 := dnAt dc_X6_match 6 rfl rfl
theorem d_X6_match_10 : dn cX6_match 10 (.istore 5) 2 12 := dnAt dc_X6_match 7 rfl rfl
theorem d_X6_match_12 : dn cX6_match 12 (.iload 5) 2 14 := dnAt dc_X6_match 8 rfl rfl
theorem d_X6_match_14 : dn cX6_match 14 (.bipush 40) 2 16 := dnAt dc_X6_match 9 rfl rfl
theorem d_X6_match_16 : dn cX6_match 16 (.if_icmp .ge 65) 3 19 := dnAt dc_X6_match 10 rfl rfl
theorem d_X6_match_19 : dn cX6_match 19 (.iload 4) 2 21 := dnAt dc_X6_match 11 rfl rfl
theorem d_X6_match_21 : dn cX6_match 21 (.ifCond .lt 60) 3 24 := dnAt dc_X6_match 12 rfl rfl
theorem d_X6_match_24 : dn cX6_match 24 (.iconst 1) 1 25 := dnAt dc_X6_match 13 rfl rfl
theorem d_X6_match_25 : dn cX6_match 25 (.istore 6) 2 27 := dnAt dc_X6_match 14 rfl rfl
theorem d_X6_match_27 : dn cX6_match 27 (.iload 6) 2 29 := dnAt dc_X6_match 15 rfl rfl
theorem d_X6_match_29 : dn cX6_match 29 (.bipush 8) 2 31 := dnAt dc_X6_match 16 rfl rfl
theorem d_X6_match_31 : dn cX6_match 31 (.if_icmp .gt 44) 3 34 := dnAt dc_X6_match 17 rfl rfl
theorem d_X6_match_34 : dn cX6_match 34 (.aload_n 3) 1 35 := dnAt dc_X6_match 18 rfl rfl
theorem d_X6_match_35 : dn cX6_match 35 (.getfield 178) 3 38 := dnAt dc_X6_match 19 rfl rfl
theorem d_X6_match_38 : dn cX6_match 38 (.iload 5) 2 40 := dnAt dc_X6_match 20 rfl rfl
theorem d_X6_match_40 : dn cX6_match 40 (.iaload) 1 41 := dnAt dc_X6_match 21 rfl rfl
theorem d_X6_match_41 : dn cX6_match 41 (.iload 6) 2 43 := dnAt dc_X6_match 22 rfl rfl
theorem d_X6_match_43 : dn cX6_match 43 (.ishr) 1 44 := dnAt dc_X6_match 23 rfl rfl
theorem d_X6_match_44 : dn cX6_match 44 (.iconst 1) 1 45 := dnAt dc_X6_match 24 rfl rfl
theorem d_X6_match_45 : dn cX6_match 45 (.iand) 1 46 := dnAt dc_X6_match 25 rfl rfl
theorem d_X6_match_46 : dn cX6_match 46 (.ifCond .ne 6) 3 49 := dnAt dc_X6_match 26 rfl rfl
theorem d_X6_match_49 : dn cX6_match 49 (.goto 20) 3 52 := dnAt dc_X6_match 27 rfl rfl
theorem d_X6_match_52 : dn cX6_match 52 (.iload 4) 2 54 := dnAt dc_X6_match 28 rfl rfl
theorem d_X6_match_54 : dn cX6_match 54 (.ifCond .ne 12) 3 57 := dnAt dc_X6_match 29 rfl rfl
theorem d_X6_match_57 : dn cX6_match 57 (.iload 5) 2 59 := dnAt dc_X6_match 30 rfl rfl
theorem d_X6_match_59 : dn cX6_match 59 (.bipush 100) 2 61 := dnAt dc_X6_match 31 rfl rfl
theorem d_X6_match_61 : dn cX6_match 61 (.imul) 1 62 := dnAt dc_X6_match 32 rfl rfl
theorem d_X6_match_62 : dn cX6_match 62 (.iload 6) 2 64 := dnAt dc_X6_match 33 rfl rfl
theorem d_X6_match_64 : dn cX6_match 64 (.iadd) 1 65 := dnAt dc_X6_match 34 rfl rfl
theorem d_X6_match_65 : dn cX6_match 65 (.ireturn) 1 66 := dnAt dc_X6_match 35 rfl rfl
theorem d_X6_match_66 : dn cX6_match 66 (.iinc 4 (-1)) 3 69 := dnAt dc_X6_match 36 rfl rfl
theorem d_X6_match_69 : dn cX6_match 69 (.iinc 6 1) 3 72 := dnAt dc_X6_match 37 rfl rfl
theorem d_X6_match_72 : dn cX6_match 72 (.goto (-45)) 3 75 := dnAt dc_X6_match 38 rfl rfl
theorem d_X6_match_75 : dn cX6_match 75 (.iinc 5 1) 3 78 := dnAt dc_X6_match 39 rfl rfl
theorem d_X6_match_78 : dn cX6_match 78 (.goto (-66)) 3 81 := dnAt dc_X6_match 40 rfl rfl
theorem d_X6_match_81 : dn cX6_match 81 (.new 88) 3 84 := dnAt dc_X6_match 41 rfl rfl
theorem d_X6_match_84 : dn cX6_match 84 (.dup) 1 85 := dnAt dc_X6_match 42 rfl rfl
theorem d_X6_match_85 : dn cX6_match 85 (.ldc 215) 2 87 := dnAt dc_X6_match 43 rfl rfl
theorem d_X6_match_87 : dn cX6_match 87 (.invokespecial 92) 3 90 := dnAt dc_X6_match 44 rfl rfl
theorem d_X6_match_90 : dn cX6_match 90 (.athrow) 1 91 := dnAt dc_X6_match 45 rfl rfl
set_option maxHeartbeats 4000000 in
set_option maxRecDepth 100000 in
theorem k_match {l : Launch} {G : eG} {ad : Nat → Nat → Nat} {h : hp} {g : mS} {v m : Int32} (hlf : l.stackTraces = false) (hm : co G ad g h) (I : mInv g) (J : rInv g) : kX l G ad h yX6_match cX6_match 7 (Option.some Jvm.ClassFile.FieldType.int) { frames := 7, cells := 2, slots := 12, locals := 111 } [.ref (ad 0 0), .int v, .int m] (fun v9 g9 _ => v9 = some (.int (nI (rMatch g v m))) ∧ g9 = g ∧ cMatch g v m = 0) (fun E9 g9 => (E9 = "java/lang/IndexOutOfBoundsException" ∧ cMatch g v m = 1) ∧ g9 = g) := by
  refine kX.of hlf hm (by decide) (Nat.le_of_ble_eq_true rfl) ?_
  intro x C A TY X
  show VC G x ad h g 0 0 0 [(0, .ref (ad 0 0)), (1, .int v), (2, .int m)] []
  refine c_aload_n C d_X6_match_0 0 rfl ?_
  refine c_iload_n C d_X6_match_1 1 rfl ?_
  refine k_callVX C X cfr_rf d_X6_match_2 ok_RX6_184 (k := 0) (i' := 0) (fun l h hl hm hf => k_knownResult hl hm J v) rfl rfl rfl rfl (rest := []) rfl rfl (Nat.le_of_ble_eq_true rfl) ⟨⟨by decide, by decide⟩, Nat.le_of_ble_eq_true rfl, Nat.le_of_ble_eq_true rfl⟩ (fun _ _ e => ⟨⟨e.1, by rw [cMatch, if_neg (by rw [e.2.1]; exact Bool.false_ne_true)]⟩, e.2.2⟩) (fun v9 g9 hq1 e9 F1 => ?_)
  obtain ⟨rfl, z1, i1⟩ := e9
  refine c_eq z1 ?_
  obtain ⟨j1, s1, t1⟩ := mIsR_of i1
  refine c_base F1 ?_
  show VC G x ad h g 1 6 5 [(0, .ref (ad 0 0)), (1, .int v), (2, .int m)] [.ref (ad 20 (tn v))]
  refine c_lve (lv' := [(0, .ref (ad 0 0)), (1, .int (nI (tn v))), (2, .int m)]) (by rw [← j1]) ?_
  refine c_astore_n C d_X6_match_5 (lv' := [(3, .ref (ad 20 (tn v))), (0, .ref (ad 0 0)), (1, .int (nI (tn v))), (2, .int m)]) (by decide) rfl ?_
  refine c_iload_n C d_X6_match_6 3 rfl ?_
  refine c_istore C d_X6_match_7 (lv' := [(4, .int m), (3, .ref (ad 20 (tn v))), (0, .ref (ad 0 0)), (1, .int (nI (tn v))), (2, .int m)]) (by decide) rfl ?_
  refine c_iconst C d_X6_match_9 (v := (nI 0)) rfl ?_
  refine c_istore C d_X6_match_10 (lv' := [(5, .int (nI 0)), (4, .int m), (3, .ref (ad 20 (tn v))), (0, .ref (ad 0 0)), (1, .int (nI (tn v))), (2, .int m)]) (by decide) rfl ?_
  have loop_12 : ∀ (fuel : Nat) (k : Nat) (lf : Int32), (k ≤ 40) → ((m < 0 ∧ lf = m ∧ k = 0) ∨ (∃ M, m = nI M ∧ M < 2147483648 ∧ cntM g (tn v) (9 * k) ≤ M ∧ lf = nI (M - cntM g (tn v) (9 * k)))) → (41 - k) < fuel → VC G x ad h g 1 6 12 [(5, .int (nI k)), (4, .int lf), (3, .ref (ad 20 (tn v))), (0, .ref (ad 0 0)), (1, .int (nI (tn v))), (2, .int m)] [] := by
    intro fuel
    induction fuel with
    | zero => intro k lf hk hl hf9; exact absurd hf9 (Nat.not_lt_zero _)
    | succ fuel ih_12 =>
      intro k lf hk hl hf9
      refine c_iload C d_X6_match_12 0 rfl ?_
      refine c_bipush C d_X6_match_14 (v := (nI 40)) rfl ?_
      refine cn_icmp_ge C d_X6_match_16 (tgt := 81) rfl (by omega) (by omega) (fun c_16 => ?_) (fun c_16 => ?_)
      · skip
        exact k_throw C X cfr_rf d_X6_match_81 d_X6_match_84 d_X6_match_85 d_X6_match_87 d_X6_match_90 th_88 (text := "no such match") (by decide) ⟨by decide, Nat.le_of_ble_eq_true rfl, Nat.le_of_ble_eq_true rfl, Nat.le_of_ble_eq_true rfl⟩ (⟨⟨rfl, cMatch_1 i1 (by rcases hl with ⟨a, b, c⟩ | ⟨M, e1, e2, e3, e4⟩; exact absurd c (by omega); right; rw [e1]; intro z; have z2 := (nI_ltI (by omega) (by have := mSize_le g (tn v); omega)).mp z; rw [mSize_cnt I s1] at z2; rw [show 9 * k = 360 by omega] at e3; omega)⟩, rfl⟩)
      · skip
        refine c_iload C d_X6_match_19 1 rfl ?_
        refine c_if_lt C d_X6_match_21 (tgt := 81) rfl (fun c_21 => ?_) (fun c_21 => ?_)
        · skip
          exact k_throw C X cfr_rf d_X6_match_81 d_X6_match_84 d_X6_match_85 d_X6_match_87 d_X6_match_90 th_88 (text := "no such match") (by decide) ⟨by decide, Nat.le_of_ble_eq_true rfl, Nat.le_of_ble_eq_true rfl, Nat.le_of_ble_eq_true rfl⟩ (⟨⟨rfl, cMatch_1 i1 (by rcases hl with ⟨a, b, c⟩ | ⟨M, e1, e2, e3, e4⟩; exact Or.inl a; rw [e4] at c_21; exact absurd c_21 (nI_pos (by omega)))⟩, rfl⟩)
        · skip
          obtain ⟨M, e1, e2, e3, e4⟩ : ∃ M, m = nI M ∧ M < 2147483648 ∧ cntM g (tn v) (9 * k) ≤ M ∧ lf = nI (M - cntM g (tn v) (9 * k)) := by rcases hl with ⟨a, b, c⟩ | z; rw [b] at c_21; exact absurd a c_21; exact z
          have hv := sz_b I s1 k (by omega)
          refine c_lve (lv' := [(5, .int (nI k)), (4, .int (nI (M - cntM g (tn v) (9 * k)))), (3, .ref (ad 20 (tn v))), (0, .ref (ad 0 0)), (1, .int (nI (tn v))), (2, .int m)]) (by rw [e4]) ?_
          refine c_iconst C d_X6_match_24 (v := (nI 1)) rfl ?_
          refine c_istore C d_X6_match_25 (lv' := [(6, .int (nI 1)), (5, .int (nI k)), (4, .int (nI (M - cntM g (tn v) (9 * k)))), (3, .ref (ad 20 (tn v))), (0, .ref (ad 0 0)), (1, .int (nI (tn v))), (2, .int m)]) (by decide) rfl ?_
          have loop_27 : ∀ (fuel : Nat) (q : Nat), (1 ≤ q ∧ q ≤ 9) → (cntM g (tn v) (9 * k + q) ≤ M) → (10 - q) < fuel → VC G x ad h g 1 6 27 [(6, .int (nI q)), (5, .int (nI k)), (4, .int (nI (M - cntM g (tn v) (9 * k + q)))), (3, .ref (ad 20 (tn v))), (0, .ref (ad 0 0)), (1, .int (nI (tn v))), (2, .int m)] [] := by
            intro fuel
            induction fuel with
            | zero => intro q hq hc hf9; exact absurd hf9 (Nat.not_lt_zero _)
            | succ fuel ih_27 =>
              intro q hq hc hf9
              refine c_iload C d_X6_match_27 0 rfl ?_
              refine c_bipush C d_X6_match_29 (v := (nI 8)) rfl ?_
              refine cn_icmp_gt C d_X6_match_31 (tgt := 75) rfl (by omega) (by omega) (fun c_31 => ?_) (fun c_31 => ?_)
              · skip
                refine cn_iinc C d_X6_match_75 (lv' := [(5, .int (nI (k + 1))), (6, .int (nI q)), (4, .int (nI (M - cntM g (tn v) (9 * k + q)))), (3, .ref (ad 20 (tn v))), (0, .ref (ad 0 0)), (1, .int (nI (tn v))), (2, .int m)]) 1 rfl (nI_inc _ rfl) (by decide) rfl ?_
                refine c_goto C d_X6_match_78 (tgt := 12) rfl ?_
                refine c_lv (lv' := [(5, .int (nI (k + 1))), (4, .int (nI (M - cntM g (tn v) (9 * k + q)))), (3, .ref (ad 20 (tn v))), (0, .ref (ad 0 0)), (1, .int (nI (tn v))), (2, .int m)]) [0, 2, 3, 4, 5, 6] rfl ?_
                refine c_lve (lv' := [(5, .int (nI (k + 1))), (4, .int ((nI (M - cntM g (tn v) (9 * k + q))))), (3, .ref (ad 20 (tn v))), (0, .ref (ad 0 0)), (1, .int (nI (tn v))), (2, .int m)]) (rfl) ?_
                exact ih_12 (k + 1) ((nI (M - cntM g (tn v) (9 * k + q)))) (by omega) (Or.inr ⟨M, e1, e2, by rw [show 9 * (k + 1) = 9 * k + 9 by omega]; rw [show q = 9 by omega] at hc; exact hc, by rw [show 9 * (k + 1) = 9 * k + 9 by omega, show q = 9 by omega]⟩) (by omega)
              · skip
                refine c_aload_n C d_X6_match_34 3 rfl ?_
                refine c_get C d_X6_match_35 fd_RX6_178 (k := 20) (i' := tn v) (decide_eq_true (by omega)) rfl (v := .ref (ad 21 (tn v))) rfl ?_
                refine c_iload C d_X6_match_38 1 rfl ?_
                refine c_ald C d_X6_match_40 (k := 21) (i := tn v) (decide_eq_true (by omega)) rfl (by show _ < 40; omega) ?_
                refine c_iload C d_X6_match_41 0 rfl ?_
                refine cn_ishr C d_X6_match_43 (by omega) (by omega) ?_
                refine c_iconst C d_X6_match_44 (v := (nI 1)) rfl ?_
                refine cn_iand C d_X6_match_45 ?_
                refine c_st (st' := [.int (nI (mN g 21 (40 * tn v + k) / 2 ^ q % 2))]) (by rw [and1]) ?_
                have join_69 : (cntM g (tn v) (9 * k + (q + 1)) ≤ M) → VC G x ad h g 1 6 69 [(6, .int (nI q)), (5, .int (nI k)), (4, .int (nI (M - cntM g (tn v) (9 * k + (q + 1))))), (3, .ref (ad 20 (tn v))), (0, .ref (ad 0 0)), (1, .int (nI (tn v))), (2, .int m)] [] := by
                  intro hc2
                  refine cn_iinc C d_X6_match_69 (lv' := [(6, .int (nI (q + 1))), (5, .int (nI k)), (4, .int (nI (M - cntM g (tn v) (9 * k + (q + 1))))), (3, .ref (ad 20 (tn v))), (0, .ref (ad 0 0)), (1, .int (nI (tn v))), (2, .int m)]) 0 rfl (nI_inc _ rfl) (by decide) rfl ?_
                  refine c_goto C d_X6_match_72 (tgt := 27) rfl ?_
                  exact ih_27 (q + 1) (by omega) (hc2) (by omega)
                refine cn_if_ne C d_X6_match_46 (tgt := 52) rfl (by omega) (fun c_46 => ?_) (fun c_46 => ?_)
                · skip
                  refine c_iload C d_X6_match_52 2 rfl ?_
                  refine cn_if_ne C d_X6_match_54 (tgt := 66) rfl (by omega) (fun c_54 => ?_) (fun c_54 => ?_)
                  · skip
                    refine cn_iinc C d_X6_match_66 (lv' := [(4, .int (nI (M - cntM g (tn v) (9 * k + q) - 1))), (6, .int (nI q)), (5, .int (nI k)), (3, .ref (ad 20 (tn v))), (0, .ref (ad 0 0)), (1, .int (nI (tn v))), (2, .int m)]) 2 rfl (nI_dec (k := 1) (by omega) (by decide)) (by decide) rfl ?_
                    refine c_lv (lv' := [(6, .int (nI q)), (5, .int (nI k)), (4, .int (nI (M - cntM g (tn v) (9 * k + q) - 1))), (3, .ref (ad 20 (tn v))), (0, .ref (ad 0 0)), (1, .int (nI (tn v))), (2, .int m)]) [1, 2, 0, 3, 4, 5, 6] rfl ?_
                    refine c_lve (lv' := [(6, .int (nI q)), (5, .int (nI k)), (4, .int (nI (M - cntM g (tn v) (9 * k + (q + 1))))), (3, .ref (ad 20 (tn v))), (0, .ref (ad 0 0)), (1, .int (nI (tn v))), (2, .int m)]) (by rw [← Nat.add_assoc, cnt_T (by rw [hasB_at (by omega)]; exact decide_eq_true (by omega)), Nat.sub_sub]) ?_
                    exact join_69  (by rw [← Nat.add_assoc, cnt_T (by rw [hasB_at (by omega)]; exact decide_eq_true (by omega))]; omega)
                  · skip
                    obtain ⟨z1, z2⟩ := rM_of I (M := M) i1 s1 (by omega) (show q < 9 by omega) (by omega) (by omega)
                    refine c_iload C d_X6_match_57 1 rfl ?_
                    refine c_bipush C d_X6_match_59 (v := (nI 100)) rfl ?_
                    refine cn_imul C d_X6_match_61 ?_
                    refine c_iload C d_X6_match_62 0 rfl ?_
                    refine cn_iadd C d_X6_match_64 ?_
                    refine c_st (st' := [.int (nI (rMatch g v m))]) (by rw [e1, z2]) ?_
                    exact k_iret C A cfr_rf TY d_X6_match_65 rfl (Nat.le_of_ble_eq_true rfl) (Nat.le_of_ble_eq_true rfl) (fun h9 F9 => ⟨rfl, rfl, by rw [e1]; exact z1⟩)
                · skip
                  refine c_goto C d_X6_match_49 (tgt := 69) rfl ?_
                  refine c_lve (lv' := [(6, .int (nI q)), (5, .int (nI k)), (4, .int (nI (M - cntM g (tn v) (9 * k + (q + 1))))), (3, .ref (ad 20 (tn v))), (0, .ref (ad 0 0)), (1, .int (nI (tn v))), (2, .int m)]) (by rw [← Nat.add_assoc, cnt_F (by rw [hasB_at (by omega)]; exact decide_eq_false (by omega))]) ?_
                  exact join_69  (by rw [← Nat.add_assoc, cnt_F (by rw [hasB_at (by omega)]; exact decide_eq_false (by omega))]; exact hc)
          refine c_lve (lv' := [(6, .int (nI 1)), (5, .int (nI k)), (4, .int (nI (M - cntM g (tn v) (9 * k + 1)))), (3, .ref (ad 20 (tn v))), (0, .ref (ad 0 0)), (1, .int (nI (tn v))), (2, .int m)]) (by rw [cnt_9 hv.2]) ?_
          exact loop_27 _ 1 (by omega) (by rw [cnt_9 hv.2]; exact e3) (Nat.lt_succ_self _)
  exact loop_12 _ 0 m (by omega) (by rcases Classical.em (m < 0) with z | z; exact Or.inl ⟨z, rfl, rfl⟩; obtain ⟨M, hM, e⟩ := nI_of z; exact Or.inr ⟨M, e, by omega, Nat.zero_le _, e⟩) (Nat.lt_succ_self _)
