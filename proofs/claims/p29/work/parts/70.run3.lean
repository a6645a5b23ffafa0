/-- a bit for each sentence with a row of a pattern, among the first k places -/
def swH (g : mS) (p o : Nat) : Nat → Nat
  | 0 => 0
  | k + 1 => if 0 < mLong g p o k 1 false then swH g p o k ||| 1 * 2 ^ mN g 3 (40 * o + k) else swH g p o k
theorem swH_lt {g : mS} (I : mInv g) {p o : Nat} (ho : o < 2) : ∀ k, k ≤ 40 → swH g p o k < 1099511627776
  | 0, _ => by rw [swH]; decide
  | k + 1, hk => by
    have i := swH_lt I (p := p) ho k (by omega)
    have h1 := I.2.2.1 (40 * o + k) (by omega)
    rw [swH]
    split
    · refine or_lt (n := 40) i ?_
      rw [Nat.one_mul]
      exact Nat.pow_lt_pow_right (by decide) (by omega)
    · exact i
theorem bitE (x k : Nat) : x.testBit k = decide (x / 2 ^ k % 2 = 1) := Nat.testBit_eq_decide_div_mod_eq
theorem bit_or {a b k : Nat} : (a ||| b) / 2 ^ k % 2 = 1 ↔ a / 2 ^ k % 2 = 1 ∨ b / 2 ^ k % 2 = 1 := by
  have h := Nat.testBit_or a b k
  rw [bitE, bitE, bitE, Bool.eq_iff_iff, Bool.or_eq_true, decide_eq_true_eq, decide_eq_true_eq, decide_eq_true_eq] at h
  exact h
theorem bit_and {a b k : Nat} : (a &&& b) / 2 ^ k % 2 = 1 ↔ a / 2 ^ k % 2 = 1 ∧ b / 2 ^ k % 2 = 1 := by
  have h := Nat.testBit_and a b k
  rw [bitE, bitE, bitE, Bool.eq_iff_iff, Bool.and_eq_true, decide_eq_true_eq, decide_eq_true_eq, decide_eq_true_eq] at h
  exact h
theorem bit_pow {n k : Nat} : 2 ^ n / 2 ^ k % 2 = 1 ↔ n = k := by
  have h : (2 ^ n).testBit k = decide (n = k) := Nat.testBit_two_pow
  rw [bitE] at h
  exact decide_eq_decide.mp h
theorem bits_0 {x : Nat} (h : ∀ k, ¬ x / 2 ^ k % 2 = 1) : x = 0 := Nat.eq_of_testBit_eq fun k => by
  rw [bitE, Nat.zero_testBit, decide_eq_false (h k)]
theorem bits_ne {x : Nat} (h : x ≠ 0) : ∃ k, x / 2 ^ k % 2 = 1 := Classical.byContradiction fun q => h (bits_0 fun k z => q ⟨k, z⟩)
theorem or_self_bit {a t : Nat} (h : (a &&& 1 * 2 ^ t) ≠ 0) : a ||| 1 * 2 ^ t = a := by
  obtain ⟨k, hk⟩ := bits_ne h
  rw [Nat.one_mul, bit_and, bit_pow] at hk
  refine Nat.eq_of_testBit_eq fun j => ?_
  rw [bitE, bitE, decide_eq_decide, Nat.one_mul, bit_or, bit_pow]
  constructor
  · rintro (z | z)
    · exact z
    · rw [← z, hk.2]; exact hk.1
  · exact Or.inl
theorem swH_bit {g : mS} {p o t : Nat} : ∀ {k}, swH g p o k / 2 ^ t % 2 = 1 ↔ ∃ j, j < k ∧ 0 < mLong g p o j 1 false ∧ mN g 3 (40 * o + j) = t
  | 0 => ⟨fun h => (by rw [swH, Nat.zero_div] at h; cases h), fun ⟨j, h, _⟩ => absurd h (Nat.not_lt_zero _)⟩
  | k + 1 => by
    rw [swH]
    by_cases c : 0 < mLong g p o k 1 false
    · rw [if_pos c, bit_or, Nat.one_mul, bit_pow, swH_bit]
      constructor
      · rintro (⟨j, h1, h2⟩ | h)
        · exact ⟨j, by omega, h2⟩
        · exact ⟨k, by omega, c, h⟩
      · rintro ⟨j, h1, h2⟩
        by_cases e : j = k
        · subst e; exact Or.inr h2.2
        · exact Or.inl ⟨j, by omega, h2⟩
    · rw [if_neg c, swH_bit]
      constructor
      · rintro ⟨j, h1, h2⟩; exact ⟨j, by omega, h2⟩
      · rintro ⟨j, h1, h2⟩
        by_cases e : j = k
        · subst e; exact absurd h2.1 c
        · exact ⟨j, by omega, h2⟩
/-- the pairs, as both keep them -/
def aInv (g : mS) : Prop := ∀ a b, a < 40 → b < 40 → mN g 53 (40 * 0 + a) / 2 ^ b % 2 = mN g 7 a / 2 ^ b % 2 ∧ mN g 53 (40 * 1 + b) / 2 ^ a % 2 = mN g 7 a / 2 ^ b % 2
theorem has_iff {g : mS} (I : mInv g) (A : aInv g) {s its p : Nat} (hs : s < 2) (hi : its < 40) : (mN g 53 (40 * s + its) &&& swH g p (1 - s) (mN g 1 (1 - s))) = 0 ↔ mHas g s its p = false := by
  have hm := I.1 (1 - s) (by omega)
  have sen : ∀ j, j < 40 → mN g 3 (40 * (1 - s) + j) < 40 := fun j hj => by
    have := I.2.2.1 (40 * (1 - s) + j) (by omega); omega
  have pr : ∀ j, j < 40 → (mN g 53 (40 * s + its) / 2 ^ mN g 3 (40 * (1 - s) + j) % 2 = 1 ↔ paB g s its j = true) := fun j hj => by
    have h1 := sen j hj
    unfold paB
    rcases (show s = 0 ∨ s = 1 by omega) with e | e <;> subst e
    · rw [if_pos rfl, if_pos rfl, decide_eq_true_eq, (A its (mN g 3 (40 * (1 - 0) + j)) hi h1).1]
    · rw [if_neg (by decide), if_neg (by decide), decide_eq_true_eq, (A (mN g 3 (40 * (1 - 1) + j)) its h1 hi).2]
  have key : (∃ j, j < mN g 1 (1 - s) ∧ haF g s its p j = true) ↔ ∃ k, (mN g 53 (40 * s + its) &&& swH g p (1 - s) (mN g 1 (1 - s))) / 2 ^ k % 2 = 1 := by
    constructor
    · rintro ⟨j, hj, h⟩
      unfold haF at h
      rw [Bool.and_eq_true, decide_eq_true_eq] at h
      exact ⟨mN g 3 (40 * (1 - s) + j), bit_and.mpr ⟨(pr j (by omega)).mpr h.1, swH_bit.mpr ⟨j, hj, h.2, rfl⟩⟩⟩
    · rintro ⟨k, hk⟩
      obtain ⟨h1, h2⟩ := bit_and.mp hk
      obtain ⟨j, hj, h3, h4⟩ := swH_bit.mp h2
      refine ⟨j, hj, ?_⟩
      unfold haF
      rw [Bool.and_eq_true, decide_eq_true_eq]
      exact ⟨(pr j (by omega)).mp (by rw [h4]; exact h1), h3⟩
  constructor
  · intro h
    cases e : mHas g s its p with
    | false => rfl
    | true =>
      obtain ⟨k, hk⟩ := key.mp (haO_iff.mp e)
      rw [h, Nat.zero_div] at hk; cases hk
  · intro h
    refine Classical.byContradiction fun q => ?_
    obtain ⟨j, h1, h2⟩ := key.mpr (bits_ne q)
    have : mHas g s its p = true := haO_iff.mpr ⟨j, h1, h2⟩
    rw [h] at this; cases this
def dl_X6_sentencesWith : List (Nat × Instr × Nat) := [(0, .lconst 0, 1), (1, .lstore_n 3, 1), (2, .iconst 0, 1), (3, .istore 5, 2), (5, .iload 5, 2), (7, .aload_n 2, 1), (8, .getfield 61, 3), (11, .if_icmp .ge 50, 3), (14, .lconst 1, 1), (15, .aload_n 2, 1), (16, .getfield 99, 3), (19, .iload 5, 2), (21, .iaload, 1), (22, .lshl, 1), (23, .lstore 6, 2), (25, .lload_n 3, 1), (26, .lload 6, 2), (28, .land, 1), (29, .lconst 0, 1), (30, .lcmp, 1), (31, .ifCond .ne 24, 3), (34, .aload_n 0, 1), (35, .getfield 43, 3), (38, .aload_n 1, 1), (39, .aload_n 2, 1), (40, .iload 5, 2), (42, .iconst 1, 1), (43, .iconst 0, 1), (44, .invokevirtual 174, 3), (47, .ifCond .le 8, 3), (50, .lload_n 3, 1), (51, .lload 6, 2), (53, .lor, 1), (54, .lstore_n 3, 1), (55, .iinc 5 1, 3), (58, .goto (-53), 3), (61, .lload_n 3, 1), (62, .lreturn, 1)]
theorem dc_X6_sentencesWith : dnL cX6_sentencesWith dl_X6_sentencesWith = true := by decide +kernel
theorem d_X6_sentencesWith_0 : dn cX6_sentencesWith 0 (.lconst 0) 1 1 := dnAt dc_X6_sentencesWith 0 rfl rfl
theorem d_X6_sentencesWith_1 : dn cX6_sentencesWith 1 (.lstore_n 3) 1 2 := dnAt dc_X6_sentencesWith 1 rfl rfl
theorem d_X6_sentencesWith_2 : dn cX6_sentencesWith 2 (.iconst 0) 1 3 := dnAt dc_X6_sentencesWith 2 rfl rfl
theorem d_X6_sentencesWith_3 : dn cX6_sentencesWith 3 (.istore 5) 2 5 := dnAt dc_X6_sentencesWith 3 rfl rfl
theorem d_X6_sentencesWith_5 : dn cX6_sentencesWith 5 (.iload 5) 2 7 := dnAt dc_X6_sentencesWith 4 rfl rfl
theorem d_X6_sentencesWith_7 : dn cX6_sentencesWith 7 (.aload_n 2) 1 8 := dnAt dc_X6_sentencesWith 5 rfl rfl
theorem d_X6_sentencesWith_8 : dn cX6_sentencesWith 8 (.getfield 61) 3 11 := dnAt dc_X6_sentencesWith 6 rfl rfl
theorem d_X6_sentencesWith_11 : dn cX6_sentencesWith 11 (.if_icmp .ge 50) 3 14 := dnAt dc_X6_sentencesWith 7 rfl rfl
theorem d_X6_sentencesWith_14 : dn cX6_sentencesWith 14 (.lconst 1) 1 15 := dnAt dc_X6_sentencesWith 8 rfl rfl
theorem d_X6_sentencesWith_15 : dn cX6_sentencesWith 15 (.aload_n 2) 1 16 := dnAt dc_X6_sentencesWith 9 rfl rfl
theorem d_X6_sentencesWith_16 : dn cX6_sentencesWith 16 (.getfield 99) 3 19 := dnAt dc_X6_sentencesWith 10 rfl rfl
theorem d_X6_sentencesWith_19 : dn cX6_sentencesWith 19 (.iload 5) 2 21 := dnAt dc_X6_sentencesWith 11 rfl rfl
theorem d_X6_sentencesWith_21 : dn cX6_sentencesWith 21 (.iaload) 1 22 := dnAt dc_X6_sentencesWith 12 rfl rfl
theorem d_X6_sentencesWith_22 : dn cX6_sentencesWith 22 (.lshl) 1 23 := dnAt dc_X6_sentencesWith 13 rfl rfl
theorem d_X6_sentencesWith_23 : dn cX6_sentencesWith 23 (.lstore 6) 2 25 := dnAt dc_X6_sentencesWith 14 rfl rfl
theorem d_X6_sentencesWith_25 : dn cX6_sentencesWith 25 (.lload_n 3) 1 26 := dnAt dc_X6_sentencesWith 15 rfl rfl
theorem d_X6_sentencesWith_26 : dn cX6_sentencesWith 26 (.lload 6) 2 28 := dnAt dc_X6_sentencesWith 16 rfl rfl
theorem d_X6_sentencesWith_28 : dn cX6_sentencesWith 28 (.land) 1 29 := dnAt dc_X6_sentencesWith 17 rfl rfl
theorem d_X6_sentencesWith_29 : dn cX6_sentencesWith 29 (.lconst 0) 1 30 := dnAt dc_X6_sentencesWith 18 rfl rfl
theorem d_X6_sentencesWith_30 : dn cX6_sentencesWith 30 (.lcmp) 1 31 := dnAt dc_X6_sentencesWith 19 rfl rfl
theorem d_X6_sentencesWith_31 : dn cX6_sentencesWith 31 (.ifCond .ne 24) 3 34 := dnAt dc_X6_sentencesWith 20 rfl rfl
theorem d_X6_sentencesWith_34 : dn cX6_sentencesWith 34 (.aload_n 0) 1 35 := dnAt dc_X6_sentencesWith 21 rfl rfl
theorem d_X6_sentencesWith_35 : dn cX6_sentencesWith 35 (.getfield 43) 3 38 := dnAt dc_X6_sentencesWith 22 rfl rfl
theorem d_X6_sentencesWith_38 : dn cX6_sentencesWith 38 (.aload_n 1) 1 39 := dnAt dc_X6_sentencesWith 23 rfl rfl
theorem d_X6_sentencesWith_39 : dn cX6_sentencesWith 39 (.aload_n 2) 1 40 := dnAt dc_X6_sentencesWith 24 rfl rfl
theorem d_X6_sentencesWith_40 : dn cX6_sentencesWith 40 (.iload 5) 2 42 := dnAt dc_X6_sentencesWith 25 rfl rfl
theorem d_X6_sentencesWith_42 : dn cX6_sentencesWith 42 (.iconst 1) 1 43 := dnAt dc_X6_sentencesWith 26 rfl rfl
theorem d_X6_sentencesWith_43 : dn cX6_sentencesWith 43 (.iconst 0) 1 44 := dnAt dc_X6_sentencesWith 27 rfl rfl
theorem d_X6_sentencesWith_44 : dn cX6_sentencesWith 44 (.invokevirtual 174) 3 47 := dnAt dc_X6_sentencesWith 28 rfl rfl
theorem d_X6_sentencesWith_47 : dn cX6_sentencesWith 47 (.ifCond .le 8) 3 50 := dnAt dc_X6_sentencesWith 29 rfl rfl
theorem d_X6_sentencesWith_50 : dn cX6_sentencesWith 50 (.lload_n 3) 1 51 := dnAt dc_X6_sentencesWith 30 rfl rfl
theorem d_X6_sentencesWith_51 : dn cX6_sentencesWith 51 (.lload 6) 2 53 := dnAt dc_X6_sentencesWith 31 rfl rfl
theorem d_X6_sentencesWith_53 : dn cX6_sentencesWith 53 (.lor) 1 54 := dnAt dc_X6_sentencesWith 32 rfl rfl
theorem d_X6_sentencesWith_54 : dn cX6_sentencesWith 54 (.lstore_n 3) 1 55 := dnAt dc_X6_sentencesWith 33 rfl rfl
theorem d_X6_sentencesWith_55 : dn cX6_sentencesWith 55 (.iinc 5 1) 3 58 := dnAt dc_X6_sentencesWith 34 rfl rfl
theorem d_X6_sentencesWith_58 : dn cX6_sentencesWith 58 (.goto (-53)) 3 61 := dnAt dc_X6_sentencesWith 35 rfl rfl
theorem d_X6_sentencesWith_61 : dn cX6_sentencesWith 61 (.lload_n 3) 1 62 := dnAt dc_X6_sentencesWith 36 rfl rfl
theorem d_X6_sentencesWith_62 : dn cX6_sentencesWith 62 (.lreturn) 1 63 := dnAt dc_X6_sentencesWith 37 rfl rfl
set_option maxHeartbeats 4000000 in
set_option maxRecDepth 100000 in
theorem k_sentencesWith {l : Launch} {G : eG} {ad : Nat → Nat → Nat} {h : hp} {g : mS} {T : Nat → tC3} {y : pA} {a p s : Nat} {is : Bool} (hm : co G ad g h) (I : mInv g) (WI : wInv g) (hp : p < 21) (hs : s < 2) (WK9 : wkA G ad h T a y is) (WR9 : wkR g y T (fun j => tcM g (8 * p + j))) (WL9 : ∀ l, lgC y (fun j => tcM g (8 * p + j)) l ↔ lgM g p l) : kC l G ad h yX6_sentencesWith cX6_sentencesWith 8 (Option.some Jvm.ClassFile.FieldType.long) { frames := 6, cells := 0, slots := 0, locals := 152 } [.ref (ad 0 0), .ref a, .ref (ad 10 s)] (fun v9 g9 _ => v9 = some (.long (lN (swH g p s (mN g 1 s)))) ∧ ∃ f9 k9 b9, g9 = wst g f9 k9 b9 ∧ ∀ z, z < 140 → f9 z < 4194304) := by
  refine kC.of hm (by decide) (Nat.le_of_ble_eq_true rfl) ?_
  intro x C A TY
  show VC G x ad h g 0 0 0 [(0, .ref (ad 0 0)), (1, .ref a), (2, .ref (ad 10 s))] []
  have hmn := I.1 s hs
  refine c_lconst C d_X6_sentencesWith_0 (v := (lN 0)) rfl ?_
  refine c_lstore_n C d_X6_sentencesWith_1 (lv' := [(3, .long (lN 0)), (0, .ref (ad 0 0)), (1, .ref a), (2, .ref (ad 10 s))]) (by decide) rfl ?_
  refine c_iconst C d_X6_sentencesWith_2 (v := (nI 0)) rfl ?_
  refine c_istore C d_X6_sentencesWith_3 (lv' := [(5, .int (nI 0)), (3, .long (lN 0)), (0, .ref (ad 0 0)), (1, .ref a), (2, .ref (ad 10 s))]) (by decide) rfl ?_
  have loop_5 : ∀ (fuel : Nat) (k : Nat) (f : Nat → Nat) (kq : Nat) (bq : Bool), (k ≤ mN g 1 s) → (∀ z, z < 140 → f z < 4194304) → (41 - k) < fuel → VC G x ad h (wst g f kq bq) 0 0 5 [(5, .int (nI k)), (3, .long (lN (swH g p s k))), (0, .ref (ad 0 0)), (1, .ref a), (2, .ref (ad 10 s))] [] := by
    intro fuel
    induction fuel with
    | zero => intro k f kq bq hk hq9 hf9; exact absurd hf9 (Nat.not_lt_zero _)
    | succ fuel ih_5 =>
      intro k f kq bq hk hq9 hf9
      refine c_iload C d_X6_sentencesWith_5 0 rfl ?_
      refine c_aload_n C d_X6_sentencesWith_7 4 rfl ?_
      refine c_get C d_X6_sentencesWith_8 fd_RX6_61 (k := 10) (i' := s) (decide_eq_true (by omega)) rfl (v := .int (nI (mN (wst g f kq bq) 1 s))) rfl ?_
      refine c_st (st' := [.int (nI (mN g 1 s)), .int (nI k)]) (by first | rfl | simp only [mN_uN, mB_uB, mK_uK, and_self, if_true]) ?_
      refine cn_icmp_ge C d_X6_sentencesWith_11 (tgt := 61) rfl (by omega) (by omega) (fun c_11 => ?_) (fun c_11 => ?_)
      · skip
        have e9 : k = mN g 1 s := by omega
        refine c_lload_n C d_X6_sentencesWith_61 1 rfl ?_
        refine c_st (st' := [.long (lN (swH g p s (mN g 1 s)))]) (by rw [e9]) ?_
        exact k_lret C A cfr_rf TY d_X6_sentencesWith_62 (Nat.le_of_ble_eq_true rfl) (Nat.le_of_ble_eq_true rfl) (fun h9 F9 => ⟨rfl, f, kq, bq, rfl, hq9⟩)
      · skip
        refine c_lconst C d_X6_sentencesWith_14 (v := (lN 1)) rfl ?_
        refine c_aload_n C d_X6_sentencesWith_15 4 rfl ?_
        refine c_get C d_X6_sentencesWith_16 fd_RX6_99 (k := 10) (i' := s) (decide_eq_true (by omega)) rfl (v := .ref (ad 12 s)) rfl ?_
        refine c_iload C d_X6_sentencesWith_19 0 rfl ?_
        refine c_ald C d_X6_sentencesWith_21 (k := 12) (i := s) (decide_eq_true (by omega)) rfl (by show _ < 40; omega) ?_
        refine c_st (st' := [.int (nI (mN g 3 (40 * s + k))), .long (lN 1)]) (rfl) ?_
        refine cn_lshl C d_X6_sentencesWith_22 (by have := I.2.2.1 (40 * s + k) (by omega); omega) ?_
        refine c_lstore C d_X6_sentencesWith_23 (lv' := [(6, .long (lN (1 * 2 ^ (mN g 3 (40 * s + k))))), (5, .int (nI k)), (3, .long (lN (swH g p s k))), (0, .ref (ad 0 0)), (1, .ref a), (2, .ref (ad 10 s))]) (by decide) rfl ?_
        refine c_lload_n C d_X6_sentencesWith_25 2 rfl ?_
        refine c_lload C d_X6_sentencesWith_26 0 rfl ?_
        refine cn_land C d_X6_sentencesWith_28 ?_
        refine c_lconst C d_X6_sentencesWith_29 (v := (lN 0)) rfl ?_
        refine cn_lcmp C d_X6_sentencesWith_30 (Nat.lt_of_le_of_lt Nat.and_le_left (by have := swH_lt I (p := p) hs k (by omega); omega)) (by decide) ?_
        have join_55 : ∀ (fj : Nat → Nat) (kj : Nat) (bj : Bool), (∀ z, z < 140 → fj z < 4194304) → VC G x ad h (wst g fj kj bj) 0 0 55 [(5, .int (nI k)), (3, .long (lN (swH g p s (k + 1)))), (0, .ref (ad 0 0)), (1, .ref a), (2, .ref (ad 10 s))] [] := by
          intro fj kj bj hqj
          refine cn_iinc C d_X6_sentencesWith_55 (lv' := [(5, .int (nI (k + 1))), (3, .long (lN (swH g p s (k + 1)))), (0, .ref (ad 0 0)), (1, .ref a), (2, .ref (ad 10 s))]) 0 rfl (nI_inc _ rfl) (by decide) rfl ?_
          refine c_goto C d_X6_sentencesWith_58 (tgt := 5) rfl ?_
          exact ih_5 (k + 1) fj kj bj (by omega) (hqj) (by omega)
        refine c_if_ne C d_X6_sentencesWith_31 (tgt := 55) rfl (fun c_31 => ?_) (fun c_31 => ?_)
        · skip
          have hsl := swH_lt I (p := p) hs k (by omega)
          have hbt : (swH g p s k &&& 1 * 2 ^ mN g 3 (40 * s + k)) ≠ 0 := fun z => c_31 ((lcmp_0 (Nat.lt_of_le_of_lt Nat.and_le_left (by omega)) (by decide)).mpr z)
          refine c_lv (lv' := [(5, .int (nI k)), (3, .long (lN (swH g p s k))), (0, .ref (ad 0 0)), (1, .ref a), (2, .ref (ad 10 s))]) [1, 2, 3, 4, 5] rfl ?_
          refine c_lve (lv' := [(5, .int (nI k)), (3, .long (lN (swH g p s (k + 1)))), (0, .ref (ad 0 0)), (1, .ref a), (2, .ref (ad 10 s))]) (by rw [swH, or_self_bit hbt, ite_self]) ?_
          exact join_55 f kq bq (hq9)
        · skip
          refine c_aload_n C d_X6_sentencesWith_34 3 rfl ?_
          refine c_get C d_X6_sentencesWith_35 fd_RX6_43 (k := 0) (i' := 0) rfl rfl (v := .ref (ad 5 0)) rfl ?_
          refine c_aload_n C d_X6_sentencesWith_38 4 rfl ?_
          refine c_aload_n C d_X6_sentencesWith_39 5 rfl ?_
          refine c_iload C d_X6_sentencesWith_40 1 rfl ?_
          refine c_iconst C d_X6_sentencesWith_42 (v := (nI 1)) rfl ?_
          refine c_iconst C d_X6_sentencesWith_43 (v := (bI false)) rfl ?_
          refine k_callV C d_X6_sentencesWith_44 ok_RX6_174 (k := 5) (i' := 0) (fun l h hm hf => k_lenFrom (p := p) (Lg := false) (bd := 1) hm I hp (WK9.mv hf) WR9 WL9 hs (by omega) (by omega) hq9) rfl rfl rfl rfl (rest := []) rfl rfl (Nat.le_of_ble_eq_true rfl) ⟨⟨by decide, by decide⟩, Nat.le_of_ble_eq_true rfl, Nat.le_of_ble_eq_true rfl⟩ (fun v9 g9 hq1 e9 F1 => ?_)
          obtain ⟨rfl, f1, k1, b1, rfl, hf1⟩ := e9
          refine c_base F1 ?_
          show VC G x ad h (wst g f1 k1 b1) 0 0 47 [(6, .long (lN (1 * 2 ^ (mN g 3 (40 * s + k))))), (5, .int (nI k)), (3, .long (lN (swH g p s k))), (0, .ref (ad 0 0)), (1, .ref a), (2, .ref (ad 10 s))] [.int (nI (mLong g p s k 1 false))]
          refine cn_if_le C d_X6_sentencesWith_47 (tgt := 55) rfl (by have := mLong_end I (p := p) (bd := 1) (L := false) hs (show k < mN g 1 s by omega); omega) (fun c_47 => ?_) (fun c_47 => ?_)
          · skip
            refine c_lv (lv' := [(5, .int (nI k)), (3, .long (lN (swH g p s k))), (0, .ref (ad 0 0)), (1, .ref a), (2, .ref (ad 10 s))]) [1, 2, 3, 4, 5] rfl ?_
            refine c_lve (lv' := [(5, .int (nI k)), (3, .long (lN (swH g p s (k + 1)))), (0, .ref (ad 0 0)), (1, .ref a), (2, .ref (ad 10 s))]) (by rw [swH, if_neg (by omega)]) ?_
            exact join_55 f1 k1 b1 (hf1)
          · skip
            refine c_lload_n C d_X6_sentencesWith_50 2 rfl ?_
            refine c_lload C d_X6_sentencesWith_51 0 rfl ?_
            refine cn_lor C d_X6_sentencesWith_53 ?_
            refine c_lstore_n C d_X6_sentencesWith_54 (lv' := [(3, .long (lN ((swH g p s k) ||| (1 * 2 ^ (mN g 3 (40 * s + k)))))), (6, .long (lN (1 * 2 ^ (mN g 3 (40 * s + k))))), (5, .int (nI k)), (0, .ref (ad 0 0)), (1, .ref a), (2, .ref (ad 10 s))]) (by decide) rfl ?_
            refine c_lv (lv' := [(5, .int (nI k)), (3, .long (lN ((swH g p s k) ||| (1 * 2 ^ (mN g 3 (40 * s + k)))))), (0, .ref (ad 0 0)), (1, .ref a), (2, .ref (ad 10 s))]) [2, 0, 3, 4, 5] rfl ?_
            refine c_lve (lv' := [(5, .int (nI k)), (3, .long (lN (swH g p s (k + 1)))), (0, .ref (ad 0 0)), (1, .ref a), (2, .ref (ad 10 s))]) (by rw [swH, if_pos c_47]) ?_
            exact join_55 f1 k1 b1 (hf1)
  refine c_lve (lv' := [(5, .int (nI 0)), (3, .long (lN (swH g p s 0))), (0, .ref (ad 0 0)), (1, .ref a), (2, .ref (ad 10 s))]) (rfl) ?_
  refine c_eq (g' := wst g (fun z => mN g 50 z) (mK g 41) (mB g 30 0)) (wst_self WI) ?_
  exact loop_5 _ 0 (fun z => mN g 50 z) (mK g 41) (mB g 30 0) (by omega) (WI.2) (Nat.lt_succ_self _)
