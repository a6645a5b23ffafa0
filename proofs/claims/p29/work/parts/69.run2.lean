theorem tw_494 : (Jvm.Cond.methodLink "Corpusline" (171 : Nat) ({ cls := "Corpusline$Result", name := "begin", desc := "(I)V" } : Jvm.MethodName)) ∈ TB := tb_of 494 (by decide +kernel) rfl
theorem tw_495 : (Jvm.Cond.instanceMethod ({ cls := "Corpusline$Result", name := "begin", desc := "(I)V" } : Jvm.MethodName)) ∈ TB := tb_of 495 (by decide +kernel) rfl
theorem tw_496 : (Jvm.Cond.selects "Corpusline$Result" ({ cls := "Corpusline$Result", name := "begin", desc := "(I)V" } : Jvm.MethodName) ({ cls := "Corpusline$Result", name := "begin", desc := "(I)V" } : Jvm.MethodName)) ∈ TB := tb_of 496 (by decide +kernel) rfl
theorem tw_497 : (Jvm.Cond.code ({ cls := "Corpusline$Result", name := "begin", desc := "(I)V" } : Jvm.MethodName) prog_3_method_2_code (3 : Nat) (Option.none : Option Jvm.ClassFile.FieldType)) ∈ TB := tb_of 497 (by decide +kernel) rfl
theorem ok_RX6_171 : okV RX6 171 yX1_begin cX1_begin 3 (Option.none : Option Jvm.ClassFile.FieldType) 1 := ⟨tw_494, tw_495, tw_496, tw_4, tw_497, ⟨by decide, by decide, by decide +kernel⟩⟩
theorem bitX_ev (x : Nat) : bitX x % 2 = 0 := by
  unfold bitX
  split
  · rfl
  · rename_i h
    obtain ⟨j, rfl⟩ : ∃ j, x = j + 1 := ⟨x - 1, by omega⟩
    rw [Nat.pow_succ]; omega
theorem bitX_bit {x z : Nat} (h : bitX x / 2 ^ z % 2 = 1) : z = x ∧ 0 < x := by
  unfold bitX at h
  split at h
  · rw [Nat.zero_div] at h; cases h
  · rename_i h0
    have h1 : (2 ^ x).testBit z = decide (x = z) := Nat.testBit_two_pow
    rw [Nat.testBit_eq_decide_div_mod_eq, decide_eq_true h] at h1
    have := of_decide_eq_true h1.symm
    omega
/-- a result that is being made: so many places are done -/
def crF (g : mS) (r p s bd : Nat) (L : Bool) (k : Nat) : Nat → Nat := fun z => if 40 * r ≤ z ∧ z < 40 * r + k then bitX (mLong g p s (z - 40 * r) bd L) else if 40 * r ≤ z ∧ z < 40 * r + 40 then 0 else mN g 21 z
def crS (g : mS) (r p s bd : Nat) (L : Bool) (k : Nat) : mS := sN (uI (uB (uN (uK g 0 0) 54 r s) 32 r true) 20 r (nI s)) 21 (crF g r p s bd L k)
theorem cr_20 {g : mS} {r p s bd k r' : Nat} {L : Bool} : mI (crS g r p s bd L k) 20 r' = if r' = r then nI s else mI g 20 r' := by
  show (if 20 = 20 ∧ r' = r then nI s else mI g 20 r') = _
  by_cases e : r' = r
  · rw [if_pos ⟨rfl, e⟩, if_pos e]
  · rw [if_neg (fun q => e q.2), if_neg e]
theorem crF_in {g : mS} (I : mInv g) {r p s bd k z : Nat} {L : Bool} (hp : p < 21) (hz : z < 320) : crF g r p s bd L k z < 512 ∧ crF g r p s bd L k z % 2 = 0 := by
  unfold crF
  split
  · exact ⟨bitX_lt (mLong_le I.core hp), bitX_ev _⟩
  · split
    · exact ⟨by decide, rfl⟩
    · exact I.2.2.2.2.2.2.2.2.2.2.2.2.2.1 z hz
theorem cr_I {g : mS} (I : mInv g) {r p s bd k : Nat} {L : Bool} (hr : r < 8) (hp : p < 21) (hs : s < 2) (hk : k ≤ mN g 1 s) : mInv (crS g r p s bd L k) := by
  have hm := I.1 s hs
  obtain ⟨a1, a2, a3, a4, a5, a6, a7, a8, a9, a10, a11, a12, a13, a14, a15, a16⟩ := I
  have I : mInv g := ⟨a1, a2, a3, a4, a5, a6, a7, a8, a9, a10, a11, a12, a13, a14, a15, a16⟩
  refine ⟨a1, a2, a3, a4, a5, a6, a7, a8, a9, a10, a11, a12, fun r' hr' => ?_, fun i hi => crF_in I hp hi, fun r' s' hr' hs' he k' hk' z hz hb => ?_, a16⟩
  · rw [cr_20]
    split
    · rcases (show s = 0 ∨ s = 1 by omega) with e | e <;> subst e
      · exact Or.inr (Or.inl rfl)
      · exact Or.inr (Or.inr rfl)
    · exact a13 r' hr'
  · rw [cr_20] at he
    replace hb : crF g r p s bd L k (40 * r' + k') / 2 ^ z % 2 = 1 := hb
    show k' + z ≤ mN g 1 s'
    unfold crF at hb
    by_cases e : r' = r
    · subst e
      rw [if_pos rfl] at he
      have := nI_inj (by omega) (by omega) he
      subst this
      split at hb
      · rw [Nat.add_sub_cancel_left] at hb
        obtain ⟨e1, _⟩ := bitX_bit hb
        rw [e1]
        exact mLong_end I hs (by omega)
      · rw [if_pos (by omega), Nat.zero_div] at hb; cases hb
    · rw [if_neg e] at he
      rw [if_neg (by omega), if_neg (by omega)] at hb
      exact a15 r' s' hr' hs' he k' hk' z hz hb
theorem cr_M {g : mS} {r p s bd k : Nat} {L : Bool} (p' s' j bd' : Nat) (L' : Bool) : mLong (crS g r p s bd L k) p' s' j bd' L' = mLong g p' s' j bd' L' := mLong_c ⟨fun _ => rfl, fun _ => rfl, fun _ => rfl, fun _ => rfl, fun _ => rfl, fun _ => rfl, fun _ => rfl, fun _ => rfl, fun _ => rfl, fun _ => rfl⟩ _ _ _ _ _
theorem uN_wst {g : mS} {f : Nat → Nat} {k row i v : Nat} {b : Bool} (h : row ≠ 50) : uN (wst g f k b) row i v = wst (uN g row i v) f k b := mS_ext (fun _ => rfl) (fun j z => by
    rw [mN_uN, show mN (wst g f k b) j z = mN (sN g 50 f) j z from rfl, show mN (wst (uN g row i v) f k b) j z = mN (sN (uN g row i v) 50 f) j z from rfl, mN_sN, mN_sN, mN_uN]
    by_cases c : j = 50
    · rw [if_neg (by omega), if_pos c, if_pos c]
    · rw [if_neg c, if_neg c]) (fun _ _ => rfl) (fun _ _ => rfl)
theorem cr_step {g : mS} {r p s bd k : Nat} {L : Bool} {f : Nat → Nat} {kq : Nat} {bq : Bool} (h : 0 < mLong g p s k bd L) : uN (wst (crS g r p s bd L k) f kq bq) 21 (40 * r + k) (1 * 2 ^ mLong g p s k bd L) = wst (crS g r p s bd L (k + 1)) f kq bq := by
  have e : uN (crS g r p s bd L k) 21 (40 * r + k) (1 * 2 ^ mLong g p s k bd L) = crS g r p s bd L (k + 1) := by
    unfold crS
    rw [sN_step (g := crF g r p s bd L (k + 1))]
    intro z
    unfold crF
    by_cases c : z = 40 * r + k
    · rw [if_pos c, if_pos (by omega), c, Nat.add_sub_cancel_left, bitX, if_neg (by omega), Nat.one_mul]
    · rw [if_neg c]
      by_cases d : 40 * r ≤ z ∧ z < 40 * r + k
      · rw [if_pos d, if_pos (by omega)]
      · rw [if_neg d, if_neg (show ¬ (40 * r ≤ z ∧ z < 40 * r + (k + 1)) by omega)]
  rw [← e]
  exact uN_wst (by decide)
theorem cr_skip {g : mS} {r p s bd k : Nat} {L : Bool} {f : Nat → Nat} {kq : Nat} {bq : Bool} (h : mLong g p s k bd L = 0) (hk : k < 40) : wst (crS g r p s bd L k) f kq bq = wst (crS g r p s bd L (k + 1)) f kq bq := by
  have e : crF g r p s bd L k = crF g r p s bd L (k + 1) := by
    funext z
    unfold crF
    by_cases c : z = 40 * r + k
    · rw [if_neg (by omega), if_pos (by omega), if_pos (by omega), c, Nat.add_sub_cancel_left, h]; rfl
    · by_cases d : 40 * r ≤ z ∧ z < 40 * r + k
      · rw [if_pos d, if_pos (by omega)]
      · rw [if_neg d, if_neg (show ¬ (40 * r ≤ z ∧ z < 40 * r + (k + 1)) by omega)]
  unfold crS
  rw [e]
theorem cr_0 {G : eG} {ad : Nat → Nat → Nat} {g : mS} (WI : wInv g) {r p s bd : Nat} {L : Bool} : ∀ k i, cOk k i = true → ce G ad (wst (crS g r p s bd L 0) (fun z => mN g 50 z) (mK g 41) (mB g 30 0)) k i = ce G ad (beS g r s 40) k i := fun k i hk => ce_cong hk ⟨fun _ => ⟨rfl, rfl, rfl⟩, fun _ => ⟨rfl, rfl, WI.1.symm⟩, fun _ => ⟨rfl, rfl, rfl⟩, fun _ => ⟨rfl, rfl⟩⟩ ⟨fun _ _ => rfl, fun _ _ => rfl, fun _ _ _ => rfl, fun _ _ _ => rfl, fun _ _ _ => rfl, fun _ _ _ => rfl, fun _ _ _ => rfl, fun _ _ _ => rfl, fun _ j hj => by
  show crF g r p s bd L 0 (40 * i + j) = beF g r 40 (40 * i + j)
  unfold crF beF
  rw [if_neg (by omega)]⟩
theorem c_gh {G : eG} {x : CX} {ad : Nat → Nat → Nat} {h0 : hp} {g g' : mS} {n1 n2 pc : Nat} {lv : List (Nat × Value)} {st : List Value} (e : ∀ k i, cOk k i = true → ce G ad g' k i = ce G ad g k i) (kk : VC G x ad h0 g' n1 n2 pc lv st) : VC G x ad h0 g n1 n2 pc lv st := fun h hm hf => kk h (hm.cong e) hf
theorem ptk_cr {G : eG} {ad : Nat → Nat → Nat} {h : hp} {g : mS} {T : Nat → tC3} {Y : Nat → pA} {r p s bd k : Nat} {L : Bool} (P : ptk G ad h g T Y) : ptk G ad h (crS g r p s bd L k) T Y := P
def dl_X6_run : List (Nat × Instr × Nat) := [(0, .aload_n 0, 1), (1, .iload_n 2, 1), (2, .invokevirtual 168, 3), (5, .astore 6, 2), (7, .aload_n 0, 1), (8, .iload_n 3, 1), (9, .invokevirtual 53, 3), (12, .astore 7, 2), (14, .iload_n 1, 1), (15, .iconst 0, 1), (16, .bipush 7, 2), (18, .invokestatic 57, 3), (21, .iload 4, 2), (23, .iconst 0, 1), (24, .iconst 2, 1), (25, .invokestatic 57, 3), (28, .aload_n 0, 1), (29, .getfield 36, 3), (32, .iload_n 1, 1), (33, .aaload, 1), (34, .astore 8, 2), (36, .aload 8, 2), (38, .iload_n 3, 1), (39, .invokevirtual 171, 3), (42, .iconst 0, 1), (43, .istore 9, 2), (45, .iload 9, 2), (47, .aload 7, 2), (49, .getfield 61, 3), (52, .if_icmp .ge 45, 3), (55, .aload_n 0, 1), (56, .getfield 43, 3), (59, .aload 6, 2), (61, .aload 7, 2), (63, .iload 9, 2), (65, .iload 4, 2), (67, .iload 5, 2), (69, .invokevirtual 174, 3), (72, .istore 10, 2), (74, .iload 10, 2), (76, .ifCond .le 15, 3), (79, .aload 8, 2), (81, .getfield 178, 3), (84, .iload 9, 2), (86, .iconst 1, 1), (87, .iload 10, 2), (89, .ishl, 1), (90, .iastore, 1), (91, .iinc 9 1, 3), (94, .goto (-49), 3), (97, .aload 8, 2), (99, .invokevirtual 181, 3), (102, .ireturn, 1)]
theorem dc_X6_run : dnL cX6_run dl_X6_run = true := by decide +kernel
theorem d_X6_run_0 : dn cX6_run 0 (.aload_n 0) 1 1 := dnAt dc_X6_run 0 rfl rfl
theorem d_X6_run_1 : dn cX6_run 1 (.iload_n 2) 1 2 := dnAt dc_X6_run 1 rfl rfl
theorem d_X6_run_2 : dn cX6_run 2 (.invokevirtual 168) 3 5 := dnAt dc_X6_run 2 rfl rfl
theorem d_X6_run_5 : dn cX6_run 5 (.astore 6) 2 7 := dnAt dc_X6_run 3 rfl rfl
theorem d_X6_run_7 : dn cX6_run 7 (.aload_n 0) 1 8 := dnAt dc_X6_run 4 rfl rfl
theorem d_X6_run_8 : dn cX6_run 8 (.iload_n 3) 1 9 := dnAt dc_X6_run 5 rfl rfl
theorem d_X6_run_9 : dn cX6_run 9 (.invokevirtual 53) 3 12 := dnAt dc_X6_run 6 rfl rfl
theorem d_X6_run_12 : dn cX6_run 12 (.astore 7) 2 14 := dnAt dc_X6_run 7 rfl rfl
theorem d_X6_run_14 : dn cX6_run 14 (.iload_n 1) 1 15 := dnAt dc_X6_run 8 rfl rfl
theorem d_X6_run_15 : dn cX6_run 15 (.iconst 0) 1 16 := dnAt dc_X6_run 9 rfl rfl
theorem d_X6_run_16 : dn cX6_run 16 (.bipush 7) 2 18 := dnAt dc_X6_run 10 rfl rfl
theorem d_X6_run_18 : dn cX6_run 18 (.invokestatic 57) 3 21 := dnAt dc_X6_run 11 rfl rfl
theorem d_X6_run_21 : dn cX6_run 21 (.iload 4) 2 23 := dnAt dc_X6_run 12 rfl rfl
theorem d_X6_run_23 : dn cX6_run 23 (.iconst 0) 1 24 := dnAt dc_X6_run 13 rfl rfl
theorem d_X6_run_24 : dn cX6_run 24 (.iconst 2) 1 25 := dnAt dc_X6_run 14 rfl rfl
theorem d_X6_run_25 : dn cX6_run 25 (.invokestatic 57) 3 28 := dnAt dc_X6_run 15 rfl rfl
theorem d_X6_run_28 : dn cX6_run 28 (.aload_n 0) 1 29 := dnAt dc_X6_run 16 rfl rfl
theorem d_X6_run_29 : dn cX6_run 29 (.getfield 36) 3 32 := dnAt dc_X6_run 17 rfl rfl
theorem d_X6_run_32 : dn cX6_run 32 (.iload_n 1) 1 33 := dnAt dc_X6_run 18 rfl rfl
theorem d_X6_run_33 : dn cX6_run 33 (.aaload) 1 34 := dnAt dc_X6_run 19 rfl rfl
theorem d_X6_run_34 : dn cX6_run 34 (.astore 8) 2 36 := dnAt dc_X6_run 20 rfl rfl
theorem d_X6_run_36 : dn cX6_run 36 (.aload 8) 2 38 := dnAt dc_X6_run 21 rfl rfl
theorem d_X6_run_38 : dn cX6_run 38 (.iload_n 3) 1 39 := dnAt dc_X6_run 22 rfl rfl
theorem d_X6_run_39 : dn cX6_run 39 (.invokevirtual 171) 3 42 := dnAt dc_X6_run 23 rfl rfl
theorem d_X6_run_42 : dn cX6_run 42 (.iconst 0) 1 43 := dnAt dc_X6_run 24 rfl rfl
theorem d_X6_run_43 : dn cX6_run 43 (.istore 9) 2 45 := dnAt dc_X6_run 25 rfl rfl
theorem d_X6_run_45 : dn cX6_run 45 (.iload 9) 2 47 := dnAt dc_X6_run 26 rfl rfl
theorem d_X6_run_47 : dn cX6_run 47 (.aload 7) 2 49 := dnAt dc_X6_run 27 rfl rfl
theorem d_X6_run_49 : dn cX6_run 49 (.getfield 61) 3 52 := dnAt dc_X6_run 28 rfl rfl
theorem d_X6_run_52 : dn cX6_run 52 (.if_icmp .ge 45) 3 55 := dnAt dc_X6_run 29 rfl rfl
theorem d_X6_run_55 : dn cX6_run 55 (.aload_n 0) 1 56 := dnAt dc_X6_run 30 rfl rfl
theorem d_X6_run_56 : dn cX6_run 56 (.getfield 43) 3 59 := dnAt dc_X6_run 31 rfl rfl
theorem d_X6_run_59 : dn cX6_run 59 (.aload 6) 2 61 := dnAt dc_X6_run 32 rfl rfl
theorem d_X6_run_61 : dn cX6_run 61 (.aload 7) 2 63 := dnAt dc_X6_run 33 rfl rfl
theorem d_X6_run_63 : dn cX6_run 63 (.iload 9) 2 65 := dnAt dc_X6_run 34 rfl rfl
theorem d_X6_run_65 : dn cX6_run 65 (.iload 4) 2 67 := dnAt dc_X6_run 35 rfl rfl
theorem d_X6_run_67 : dn cX6_run 67 (.iload 5) 2 69 := dnAt dc_X6_run 36 rfl rfl
theorem d_X6_run_69 : dn cX6_run 69 (.invokevirtual 174) 3 72 := dnAt dc_X6_run 37 rfl rfl
theorem d_X6_run_72 : dn cX6_run 72 (.istore 10) 2 74 := dnAt dc_X6_run 38 rfl rfl
theorem d_X6_run_74 : dn cX6_run 74 (.iload 10) 2 76 := dnAt dc_X6_run 39 rfl rfl
theorem d_X6_run_76 : dn cX6_run 76 (.ifCond .le 15) 3 79 := dnAt dc_X6_run 40 rfl rfl
theorem d_X6_run_79 : dn cX6_run 79 (.aload 8) 2 81 := dnAt dc_X6_run 41 rfl rfl
theorem d_X6_run_81 : dn cX6_run 81 (.getfield 178) 3 84 := dnAt dc_X6_run 42 rfl rfl
theorem d_X6_run_84 : dn cX6_run 84 (.iload 9) 2 86 := dnAt dc_X6_run 43 rfl rfl
theorem d_X6_run_86 : dn cX6_run 86 (.iconst 1) 1 87 := dnAt dc_X6_run 44 rfl rfl
theorem d_X6_run_87 : dn cX6_run 87 (.iload 10) 2 89 := dnAt dc_X6_run 45 rfl rfl
theorem d_X6_run_89 : dn cX6_run 89 (.ishl) 1 90 := dnAt dc_X6_run 46 rfl rfl
theorem d_X6_run_90 : dn cX6_run 90 (.iastore) 1 91 := dnAt dc_X6_run 47 rfl rfl
theorem d_X6_run_91 : dn cX6_run 91 (.iinc 9 1) 3 94 := dnAt dc_X6_run 48 rfl rfl
theorem d_X6_run_94 : dn cX6_run 94 (.goto (-49)) 3 97 := dnAt dc_X6_run 49 rfl rfl
theorem d_X6_run_97 : dn cX6_run 97 (.aload 8) 2 99 := dnAt dc_X6_run 50 rfl rfl
theorem d_X6_run_99 : dn cX6_run 99 (.invokevirtual 181) 3 102 := dnAt dc_X6_run 51 rfl rfl
theorem d_X6_run_102 : dn cX6_run 102 (.ireturn) 1 103 := dnAt dc_X6_run 52 rfl rfl
set_option maxHeartbeats 4000000 in
set_option maxRecDepth 100000 in
theorem k_run {l : Launch} {G : eG} {ad : Nat → Nat → Nat} {h : hp} {g : mS} {T : Nat → tC3} {Y : Nat → pA} {r pat side bd : Int32} {Lg : Bool} (hlf : l.stackTraces = false) (hm : co G ad g h) (I : mInv g) (WI : wInv g) (LP : ptk G ad h g T Y) : kX l G ad h yX6_run cX6_run 11 (Option.some Jvm.ClassFile.FieldType.int) { frames := 7, cells := 4, slots := 24, locals := 152 } [.ref (ad 0 0), .int r, .int pat, .int side, .int bd, .int (bI Lg)] (fun v9 g9 _ => v9 = some (.int (nI (mSize (crS g (tn r) (tn pat) (tn side) (tn bd) Lg (mN g 1 (tn side))) (tn r)))) ∧ cRun g r pat side bd = 0 ∧ ∃ f9 k9 b9, g9 = wst (crS g (tn r) (tn pat) (tn side) (tn bd) Lg (mN g 1 (tn side))) f9 k9 b9 ∧ ∀ z, z < 140 → f9 z < 4194304) (fun E9 g9 => (E9 = "java/lang/IndexOutOfBoundsException" ∧ cRun g r pat side bd = 1 ∨ E9 = "java/lang/IllegalArgumentException" ∧ cRun g r pat side bd = 2) ∧ g9 = g) := by
  refine kX.of hlf hm (by decide) (Nat.le_of_ble_eq_true rfl) ?_
  intro x C A TY X
  show VC G x ad h g 0 0 0 [(0, .ref (ad 0 0)), (1, .int r), (2, .int pat), (3, .int side), (4, .int bd), (5, .int (bI Lg))] []
  have h15 := pats_le I
  have hpt := fun j hj => (LP j hj).1
  refine c_aload_n C d_X6_run_0 0 rfl ?_
  refine c_iload_n C d_X6_run_1 2 rfl ?_
  refine k_callVX C X cfr_rf d_X6_run_2 ok_RX6_168 (k := 0) (i' := 0) (fun l h hl hm hf => k_knownPattern hl hm h15 hpt pat) rfl rfl rfl rfl (rest := []) rfl rfl (Nat.le_of_ble_eq_true rfl) ⟨⟨by decide, by decide⟩, Nat.le_of_ble_eq_true rfl, Nat.le_of_ble_eq_true rfl⟩ (fun _ _ e => ⟨Or.inl ⟨e.1, by rw [cRun, if_neg (by rw [show mIsP g pat = false from e.2.1]; exact Bool.false_ne_true)]⟩, e.2.2⟩) (fun v9 g9 hq1 e9 F1 => ?_)
  obtain ⟨rfl, z1, i1⟩ := e9
  refine c_eq z1 ?_
  obtain ⟨j1, s1⟩ := inI_of (by omega) i1
  refine c_base F1 ?_
  show VC G x ad h g 1 6 5 [(0, .ref (ad 0 0)), (1, .int r), (2, .int pat), (3, .int side), (4, .int bd), (5, .int (bI Lg))] [.ref (mN g 61 (tn pat) - 1)]
  refine c_astore C d_X6_run_5 (lv' := [(6, .ref (mN g 61 (tn pat) - 1)), (0, .ref (ad 0 0)), (1, .int r), (2, .int pat), (3, .int side), (4, .int bd), (5, .int (bI Lg))]) (by decide) rfl ?_
  refine c_aload_n C d_X6_run_7 1 rfl ?_
  refine c_iload_n C d_X6_run_8 4 rfl ?_
  refine k_callVX C X cfr_rf d_X6_run_9 ok_RX6_53 (k := 0) (i' := 0) (fun l h hl hm hf => k_knownSide hl hm side) rfl rfl rfl rfl (rest := []) rfl rfl (Nat.le_of_ble_eq_true rfl) ⟨⟨by decide, by decide⟩, Nat.le_of_ble_eq_true rfl, Nat.le_of_ble_eq_true rfl⟩ (fun _ _ e => ⟨Or.inl ⟨e.1, by rw [cRun, if_neg (by rw [e.2.1, Bool.and_false]; decide)]⟩, e.2.2⟩) (fun v9 g9 hq2 e9 F2 => ?_)
  obtain ⟨rfl, z2, i2⟩ := e9
  refine c_eq z2 ?_
  obtain ⟨j2, -, s2⟩ := inR_of i2 (by decide) (by decide)
  refine c_base F2 ?_
  show VC G x ad h g 2 12 12 [(6, .ref (mN g 61 (tn pat) - 1)), (0, .ref (ad 0 0)), (1, .int r), (2, .int pat), (3, .int side), (4, .int bd), (5, .int (bI Lg))] [.ref (ad 10 (tn side))]
  refine c_astore C d_X6_run_12 (lv' := [(7, .ref (ad 10 (tn side))), (6, .ref (mN g 61 (tn pat) - 1)), (0, .ref (ad 0 0)), (1, .int r), (2, .int pat), (3, .int side), (4, .int bd), (5, .int (bI Lg))]) (by decide) rfl ?_
  refine c_iload_n C d_X6_run_14 3 rfl ?_
  refine c_iconst C d_X6_run_15 (v := (nI 0)) rfl ?_
  refine c_bipush C d_X6_run_16 (v := (nI 7)) rfl ?_
  refine k_callSX C X cfr_rf d_X6_run_18 ok_RX6_57 (fun l h hl hm hf => k_demandRange hl hm r ((nI 0)) ((nI 7))) (rest := []) rfl rfl (Nat.le_of_ble_eq_true rfl) ⟨⟨by decide, by decide⟩, Nat.le_of_ble_eq_true rfl, Nat.le_of_ble_eq_true rfl⟩ (fun _ _ e => ⟨Or.inr (⟨e.1, by rw [cRun, if_pos (by rw [show mIsP g pat = true from i1, i2]; rfl), if_neg (by rw [show inR r 0 7 = false from e.2.1]; exact Bool.false_ne_true)]⟩), e.2.2⟩) (fun v9 g9 hq3 e9 F3 => ?_)
  obtain ⟨rfl, z3, i3⟩ := e9
  refine c_eq z3 ?_
  refine c_base F3 ?_
  show VC G x ad h g 3 18 21 [(7, .ref (ad 10 (tn side))), (6, .ref (mN g 61 (tn pat) - 1)), (0, .ref (ad 0 0)), (1, .int r), (2, .int pat), (3, .int side), (4, .int bd), (5, .int (bI Lg))] []
  refine c_iload C d_X6_run_21 6 rfl ?_
  refine c_iconst C d_X6_run_23 (v := (nI 0)) rfl ?_
  refine c_iconst C d_X6_run_24 (v := (nI 2)) rfl ?_
  refine k_callSX C X cfr_rf d_X6_run_25 ok_RX6_57 (fun l h hl hm hf => k_demandRange hl hm bd ((nI 0)) ((nI 2))) (rest := []) rfl rfl (Nat.le_of_ble_eq_true rfl) ⟨⟨by decide, by decide⟩, Nat.le_of_ble_eq_true rfl, Nat.le_of_ble_eq_true rfl⟩ (fun _ _ e => ⟨Or.inr (⟨e.1, by rw [cRun, if_pos (by rw [show mIsP g pat = true from i1, i2]; rfl), if_neg (by rw [show inR bd 0 2 = false from e.2.1, Bool.and_false]; decide)]⟩), e.2.2⟩) (fun v9 g9 hq4 e9 F4 => ?_)
  obtain ⟨rfl, z4, i4⟩ := e9
  refine c_eq z4 ?_
  refine c_base F4 ?_
  show VC G x ad h g 4 24 28 [(7, .ref (ad 10 (tn side))), (6, .ref (mN g 61 (tn pat) - 1)), (0, .ref (ad 0 0)), (1, .int r), (2, .int pat), (3, .int side), (4, .int bd), (5, .int (bI Lg))] []
  replace i3 : inR r 0 7 = true := i3
  replace i4 : inR bd 0 2 = true := i4
  obtain ⟨j3, -, s3⟩ := inR_of i3 (by decide) (by decide)
  obtain ⟨j4, -, s4⟩ := inR_of i4 (by decide) (by decide)
  have z0 : cRun g r pat side bd = 0 := by rw [cRun, if_pos (by rw [show mIsP g pat = true from i1, i2]; rfl), if_pos (by rw [i3, i4]; rfl)]
  have hmn := I.1 (tn side) (by omega)
  obtain ⟨-, ⟨is9, WK9⟩, WR9, WL9⟩ := LP (tn pat) (by omega)
  refine c_lve (lv' := [(7, .ref (ad 10 (tn side))), (6, .ref (mN g 61 (tn pat) - 1)), (0, .ref (ad 0 0)), (1, .int (nI (tn r))), (2, .int (nI (tn pat))), (3, .int (nI (tn side))), (4, .int (nI (tn bd))), (5, .int (bI Lg))]) (by rw [← j1, ← j2, ← j3, ← j4]) ?_
  refine c_aload_n C d_X6_run_28 2 rfl ?_
  refine c_get C d_X6_run_29 fd_RX6_36 (k := 0) (i' := 0) rfl rfl (v := .ref (ad 4 0)) rfl ?_
  refine c_iload_n C d_X6_run_32 3 rfl ?_
  refine c_aRes C d_X6_run_33 (s := tn r) (by omega) ?_
  refine c_astore C d_X6_run_34 (lv' := [(8, .ref (ad 20 (tn r))), (7, .ref (ad 10 (tn side))), (6, .ref (mN g 61 (tn pat) - 1)), (0, .ref (ad 0 0)), (1, .int (nI (tn r))), (2, .int (nI (tn pat))), (3, .int (nI (tn side))), (4, .int (nI (tn bd))), (5, .int (bI Lg))]) (by decide) rfl ?_
  refine c_aload C d_X6_run_36 0 rfl ?_
  refine c_iload_n C d_X6_run_38 6 rfl ?_
  refine k_callV C d_X6_run_39 ok_RX6_171 (k := 20) (i' := tn r) (fun l h hm hf => k_begin hm (by omega)) (decide_eq_true (by omega)) rfl rfl rfl (rest := []) rfl rfl (Nat.le_of_ble_eq_true rfl) ⟨⟨by decide, by decide⟩, Nat.le_of_ble_eq_true rfl, Nat.le_of_ble_eq_true rfl⟩ (fun v9 g9 hq5 e9 F5 => ?_)
  obtain ⟨rfl, z5⟩ := e9
  refine c_eq z5 ?_
  refine c_base F5 ?_
  show VC G x ad h (beS g (tn r) (tn side) 40) 4 24 42 [(8, .ref (ad 20 (tn r))), (7, .ref (ad 10 (tn side))), (6, .ref (mN g 61 (tn pat) - 1)), (0, .ref (ad 0 0)), (1, .int (nI (tn r))), (2, .int (nI (tn pat))), (3, .int (nI (tn side))), (4, .int (nI (tn bd))), (5, .int (bI Lg))] []
  refine c_gh (cr_0 WI (p := tn pat) (bd := tn bd) (L := Lg)) ?_
  refine c_iconst C d_X6_run_42 (v := (nI 0)) rfl ?_
  refine c_istore C d_X6_run_43 (lv' := [(9, .int (nI 0)), (8, .ref (ad 20 (tn r))), (7, .ref (ad 10 (tn side))), (6, .ref (mN g 61 (tn pat) - 1)), (0, .ref (ad 0 0)), (1, .int (nI (tn r))), (2, .int (nI (tn pat))), (3, .int (nI (tn side))), (4, .int (nI (tn bd))), (5, .int (bI Lg))]) (by decide) rfl ?_
  have loop_45 : ∀ (fuel : Nat) (k : Nat) (f : Nat → Nat) (kq : Nat) (bq : Bool), (k ≤ mN g 1 (tn side)) → (∀ z, z < 140 → f z < 4194304) → (41 - k) < fuel → VC G x ad h (wst (crS g (tn r) (tn pat) (tn side) (tn bd) Lg k) f kq bq) 4 24 45 [(9, .int (nI k)), (8, .ref (ad 20 (tn r))), (7, .ref (ad 10 (tn side))), (6, .ref (mN g 61 (tn pat) - 1)), (0, .ref (ad 0 0)), (1, .int (nI (tn r))), (2, .int (nI (tn pat))), (3, .int (nI (tn side))), (4, .int (nI (tn bd))), (5, .int (bI Lg))] [] := by
    intro fuel
    induction fuel with
    | zero => intro k f kq bq hk hq9 hf9; exact absurd hf9 (Nat.not_lt_zero _)
    | succ fuel ih_45 =>
      intro k f kq bq hk hq9 hf9
      refine c_iload C d_X6_run_45 0 rfl ?_
      refine c_aload C d_X6_run_47 2 rfl ?_
      refine c_get C d_X6_run_49 fd_RX6_61 (k := 10) (i' := tn side) (decide_eq_true (by omega)) rfl (v := .int (nI (mN (wst (crS g (tn r) (tn pat) (tn side) (tn bd) Lg k) f kq bq) 1 (tn side)))) rfl ?_
      refine c_st (st' := [.int (nI (mN g 1 (tn side))), .int (nI k)]) (by first | rfl | simp only [mN_uN, mB_uB, mK_uK, and_self, if_true]) ?_
      refine cn_icmp_ge C d_X6_run_52 (tgt := 97) rfl (by omega) (by omega) (fun c_52 => ?_) (fun c_52 => ?_)
      · skip
        have e9 : k = mN g 1 (tn side) := by omega
        refine c_aload C d_X6_run_97 1 rfl ?_
        refine k_callV C d_X6_run_99 ok_RX6_181 (k := 20) (i' := tn r) (fun l h hm hf => k_matchCount hm (by omega) (sz_b (wst_I (cr_I I (by omega) (by omega) (by omega) (by omega))) (by omega))) (decide_eq_true (by omega)) rfl rfl rfl (rest := []) rfl rfl (Nat.le_of_ble_eq_true rfl) ⟨⟨by decide, by decide⟩, Nat.le_of_ble_eq_true rfl, Nat.le_of_ble_eq_true rfl⟩ (fun v9 g9 hq6 e9 F6 => ?_)
        obtain ⟨rfl, z6⟩ := e9
        refine c_eq z6 ?_
        refine c_base F6 ?_
        show VC G x ad h (wst (crS g (tn r) (tn pat) (tn side) (tn bd) Lg k) f kq bq) 4 24 102 [(9, .int (nI k)), (8, .ref (ad 20 (tn r))), (7, .ref (ad 10 (tn side))), (6, .ref (mN g 61 (tn pat) - 1)), (0, .ref (ad 0 0)), (1, .int (nI (tn r))), (2, .int (nI (tn pat))), (3, .int (nI (tn side))), (4, .int (nI (tn bd))), (5, .int (bI Lg))] [.int (nI (mSize (wst (crS g (tn r) (tn pat) (tn side) (tn bd) Lg k) f kq bq) (tn r)))]
        refine c_st (st' := [.int (nI (mSize (crS g (tn r) (tn pat) (tn side) (tn bd) Lg (mN g 1 (tn side))) (tn r)))]) (by rw [e9]; rfl) ?_
        exact k_iret C A cfr_rf TY d_X6_run_102 rfl (Nat.le_of_ble_eq_true rfl) (Nat.le_of_ble_eq_true rfl) (fun h9 F9 => ⟨rfl, z0, f, kq, bq, by rw [e9], hq9⟩)
      · skip
        refine c_aload_n C d_X6_run_55 4 rfl ?_
        refine c_get C d_X6_run_56 fd_RX6_43 (k := 0) (i' := 0) rfl rfl (v := .ref (ad 5 0)) rfl ?_
        refine c_aload C d_X6_run_59 3 rfl ?_
        refine c_aload C d_X6_run_61 2 rfl ?_
        refine c_iload C d_X6_run_63 0 rfl ?_
        refine c_iload C d_X6_run_65 8 rfl ?_
        refine c_iload C d_X6_run_67 9 rfl ?_
        refine k_callV C d_X6_run_69 ok_RX6_174 (k := 5) (i' := 0) (fun l h hm hf => k_lenFrom (p := tn pat) hm (cr_I I (by omega) (by omega) (by omega) (by omega)) (by omega) (WK9.mv hf) WR9 WL9 (by omega) (show k < mN g 1 (tn side) by omega) (by omega) hq9) rfl rfl rfl rfl (rest := []) rfl rfl (Nat.le_of_ble_eq_true rfl) ⟨⟨by decide, by decide⟩, Nat.le_of_ble_eq_true rfl, Nat.le_of_ble_eq_true rfl⟩ (fun v9 g9 hq7 e9 F7 => ?_)
        obtain ⟨rfl, f7, k7, b7, rfl, hf7⟩ := e9
        refine c_base F7 ?_
        show VC G x ad h (wst (crS g (tn r) (tn pat) (tn side) (tn bd) Lg k) f7 k7 b7) 4 24 72 [(9, .int (nI k)), (8, .ref (ad 20 (tn r))), (7, .ref (ad 10 (tn side))), (6, .ref (mN g 61 (tn pat) - 1)), (0, .ref (ad 0 0)), (1, .int (nI (tn r))), (2, .int (nI (tn pat))), (3, .int (nI (tn side))), (4, .int (nI (tn bd))), (5, .int (bI Lg))] [.int (nI (mLong (crS g (tn r) (tn pat) (tn side) (tn bd) Lg k) (tn pat) (tn side) k (tn bd) Lg))]
        refine c_st (st' := [.int (nI (mLong g (tn pat) (tn side) k (tn bd) Lg))]) (by rw [cr_M]) ?_
        refine c_istore C d_X6_run_72 (lv' := [(10, .int (nI (mLong g (tn pat) (tn side) k (tn bd) Lg))), (9, .int (nI k)), (8, .ref (ad 20 (tn r))), (7, .ref (ad 10 (tn side))), (6, .ref (mN g 61 (tn pat) - 1)), (0, .ref (ad 0 0)), (1, .int (nI (tn r))), (2, .int (nI (tn pat))), (3, .int (nI (tn side))), (4, .int (nI (tn bd))), (5, .int (bI Lg))]) (by decide) rfl ?_
        refine c_iload C d_X6_run_74 0 rfl ?_
        have join_91 : VC G x ad h (wst (crS g (tn r) (tn pat) (tn side) (tn bd) Lg (k + 1)) f7 k7 b7) 4 24 91 [(9, .int (nI k)), (8, .ref (ad 20 (tn r))), (7, .ref (ad 10 (tn side))), (6, .ref (mN g 61 (tn pat) - 1)), (0, .ref (ad 0 0)), (1, .int (nI (tn r))), (2, .int (nI (tn pat))), (3, .int (nI (tn side))), (4, .int (nI (tn bd))), (5, .int (bI Lg))] [] := by
          refine cn_iinc C d_X6_run_91 (lv' := [(9, .int (nI (k + 1))), (8, .ref (ad 20 (tn r))), (7, .ref (ad 10 (tn side))), (6, .ref (mN g 61 (tn pat) - 1)), (0, .ref (ad 0 0)), (1, .int (nI (tn r))), (2, .int (nI (tn pat))), (3, .int (nI (tn side))), (4, .int (nI (tn bd))), (5, .int (bI Lg))]) 0 rfl (nI_inc _ rfl) (by decide) rfl ?_
          refine c_goto C d_X6_run_94 (tgt := 45) rfl ?_
          exact ih_45 (k + 1) f7 k7 b7 (by omega) (hf7) (by omega)
        refine cn_if_le C d_X6_run_76 (tgt := 91) rfl (by have := mLong_end I (p := tn pat) (bd := tn bd) (L := Lg) (show tn side < 2 by omega) (show k < mN g 1 (tn side) by omega); omega) (fun c_76 => ?_) (fun c_76 => ?_)
        · skip
          refine c_lv (lv' := [(9, .int (nI k)), (8, .ref (ad 20 (tn r))), (7, .ref (ad 10 (tn side))), (6, .ref (mN g 61 (tn pat) - 1)), (0, .ref (ad 0 0)), (1, .int (nI (tn r))), (2, .int (nI (tn pat))), (3, .int (nI (tn side))), (4, .int (nI (tn bd))), (5, .int (bI Lg))]) [1, 2, 3, 4, 5, 6, 7, 8, 9, 10] rfl ?_
          refine c_eq (g' := wst (crS g (tn r) (tn pat) (tn side) (tn bd) Lg (k + 1)) f7 k7 b7) (cr_skip c_76 (by omega)) ?_
          exact join_91  
        · skip
          have hle8 := mLong_end I (p := tn pat) (bd := tn bd) (L := Lg) (show tn side < 2 by omega) (show k < mN g 1 (tn side) by omega)
          have hl8 := mLong_le I.core (pat := tn pat) (s := tn side) (p := k) (bd := tn bd) (L := Lg) (by omega)
          refine c_aload C d_X6_run_79 2 rfl ?_
          refine c_get C d_X6_run_81 fd_RX6_178 (k := 20) (i' := tn r) (decide_eq_true (by omega)) rfl (v := .ref (ad 21 (tn r))) rfl ?_
          refine c_iload C d_X6_run_84 1 rfl ?_
          refine c_iconst C d_X6_run_86 (v := (nI 1)) rfl ?_
          refine c_iload C d_X6_run_87 0 rfl ?_
          refine cn_ishl C d_X6_run_89 (by omega) ?_
          refine c_ast C d_X6_run_90 (k := 21) (i := tn r) (v := 1 * 2 ^ (mLong g (tn pat) (tn side) k (tn bd) Lg)) (decide_eq_true (by omega)) rfl (by show _ < 40; omega) ?_
          refine c_lv (lv' := [(9, .int (nI k)), (8, .ref (ad 20 (tn r))), (7, .ref (ad 10 (tn side))), (6, .ref (mN g 61 (tn pat) - 1)), (0, .ref (ad 0 0)), (1, .int (nI (tn r))), (2, .int (nI (tn pat))), (3, .int (nI (tn side))), (4, .int (nI (tn bd))), (5, .int (bI Lg))]) [1, 2, 3, 4, 5, 6, 7, 8, 9, 10] rfl ?_
          refine c_eq (g' := wst (crS g (tn r) (tn pat) (tn side) (tn bd) Lg (k + 1)) f7 k7 b7) (cr_step c_76) ?_
          exact join_91  
  exact loop_45 _ 0 (fun z => mN g 50 z) (mK g 41) (mB g 30 0) (by omega) (WI.2) (Nat.lt_succ_self _)
